set_option maxHeartbeats 4000000 in
set_option maxRecDepth 100000 in
theorem m_runs (l : Launch) (dC : Nat → ClassId) (dI : Nat → Nat → Nat) (sz : Nat) (h0 : Nat) (i_thrown : Int32) (i_lasts : Int32) (v_buffer : Value) (i_size : Int32) (i_documents : Int32) (v_gone : Value) (v_first : Value) (v_many : Value) (v_lengths : Value) (v_authors : Value) (v_sums : Value) (v_row : Value) (v_made : Value) (i_madeSize : Int32) (v_base : Value) (i_baseSize : Int32) (v_text : Value) (i_textSize : Int32) (i_textSteps : Int32) (v_other : Value) (i_otherSize : Int32) (v_piece : Value) (i_pieceSize : Int32) (i_at : Int32) (i_end : Int32) (i_value : Int32) (a1 : Int32)  : Met l y_O_runs k_O_runs ({ frames := 0, cells := 0, slots := 0, locals := 0 } : Room) (va_Pc [.ref h0, .int a1] (pc_E (dC, dI) [(h0, .inr (7, [.int i_thrown, .int 0, .int i_lasts, v_buffer, .int i_size, .int i_documents, v_gone, v_first, v_many, v_lengths, v_authors, v_sums, v_row, v_made, .int i_madeSize, v_base, .int i_baseSize, v_text, .int i_textSize, .int i_textSteps, v_other, .int i_otherSize, v_piece, .int i_pieceSize, .int i_at, .int i_end, .int i_value]))] [] sz)) (va_Qi (fun (r : Int32) (_ : Unit) => r = 1) (fun (_ : Unit) t => at_E (dC, dI) (va_A [(h0, .inr (7, [.int i_thrown, .int 0, .int i_lasts, v_buffer, .int i_size, .int i_documents, v_gone, v_first, v_many, v_lengths, v_authors, v_sums, v_row, v_made, .int i_madeSize, v_base, .int i_baseSize, v_text, .int i_textSize, .int i_textSteps, v_other, .int i_otherSize, v_piece, .int i_pieceSize, .int i_at, .int i_end, .int i_value]))] sz) [(h0, .inr (7, [.int 0, .int 0, .int i_lasts, v_buffer, .int i_size, .int i_documents, v_gone, v_first, v_many, v_lengths, v_authors, v_sums, v_row, v_made, .int i_madeSize, v_base, .int i_baseSize, v_text, .int i_textSize, .int i_textSteps, v_other, .int i_otherSize, v_piece, .int i_pieceSize, .int i_at, .int i_end, .int i_value]))] [] t) (va_A [(h0, .inr (7, [.int i_thrown, .int 0, .int i_lasts, v_buffer, .int i_size, .int i_documents, v_gone, v_first, v_many, v_lengths, v_authors, v_sums, v_row, v_made, .int i_madeSize, v_base, .int i_baseSize, v_text, .int i_textSize, .int i_textSteps, v_other, .int i_otherSize, v_piece, .int i_pieceSize, .int i_at, .int i_end, .int i_value]))] sz)) 0 0 (va_A [(h0, .inr (7, [.int i_thrown, .int 0, .int i_lasts, v_buffer, .int i_size, .int i_documents, v_gone, v_first, v_many, v_lengths, v_authors, v_sums, v_row, v_made, .int i_madeSize, v_base, .int i_baseSize, v_text, .int i_textSize, .int i_textSteps, v_other, .int i_otherSize, v_piece, .int i_pieceSize, .int i_at, .int i_end, .int i_value]))] sz) := by
  refine Met.ofW (cc := prog_9_method_3_code) (maxL := 2) (ret := (some .boolean)) (by decide) rfl ?_
  intro p e s m args below meth c s₁ B hml hv
  obtain ⟨rfl, hsz, hP, hK, hD0, hN⟩ := hv
  have hx := B.exec
  have hb := B.bytes
  have hr := B.returns
  have hts := atoms_spec (ws := k_O_runs) B.pre
  have hw0 : ∀ w ∈ w0, w.before _ s = true := fun w h => hts w (List.mem_cons_of_mem _ h)
  have hown : s.vm.findClass R_O = some m.cls := findClass_of_methodNamed B.named
  have hlocks := B.notSynchronized
  subst hsz
  have hD := hD0.self (sz := s.heap.size)
  generalize hAe : va_A [(h0, .inr (7, [.int i_thrown, .int 0, .int i_lasts, v_buffer, .int i_size, .int i_documents, v_gone, v_first, v_many, v_lengths, v_authors, v_sums, v_row, v_made, .int i_madeSize, v_base, .int i_baseSize, v_text, .int i_textSize, .int i_textSteps, v_other, .int i_otherSize, v_piece, .int i_pieceSize, .int i_at, .int i_end, .int i_value]))] s.heap.size = A at hD ⊢
  have hA : ∀ q : Nat, s.heap.size ≤ q → A q := fun q h => by rw [← hAe]; exact Or.inr h
  have hS : va_S A s.heap s.heap [] := va_S.rf
  have hP : va_P (dC, dI) vwCl [(h0, .inr (7, [.int i_thrown, .int 0, .int i_lasts, v_buffer, .int i_size, .int i_documents, v_gone, v_first, v_many, v_lengths, v_authors, v_sums, v_row, v_made, .int i_madeSize, v_base, .int i_baseSize, v_text, .int i_textSize, .int i_textSteps, v_other, .int i_otherSize, v_piece, .int i_pieceSize, .int i_at, .int i_end, .int i_value]))] s.heap := hP
  have hl := lv_entry ([.ref h0, .int a1]) (n := 2) (Nat.le_of_ble_eq_true rfl)
  rw [lg_entry_eq]
  generalize (lg_sl ([.ref h0, .int a1]) ++ List.replicate (2 - (lg_sl ([.ref h0, .int a1])).length) Slot.unset).toArray = ls at hl ⊢
  have hl : lv_has ls 2 [(0, .ref h0), (1, .int a1)] := hl
  refine lv_aload_n hx hb d_O_runs_0 rfl (lv_at hl 0 rfl) ?_
  refine lv_aload_n hx hb d_O_runs_1 rfl (lv_at hl 0 rfl) ?_
  refine va_get (D := (dC, dI)) (ci := 7) (v := .int 0) (C := R_O) (T := F_O) (N := 27) hx hb hw0 in_O hown hK hP 0 rfl rfl 1 (by decide) (hw0 (.fieldLink R_O 65 "TextKeeperModel" "down" "Z") (List.mem_of_getElem? (i := 167) rfl)) (fun _ h9 => h9) rfl d_O_runs_2 ?_
  refine lv_if_eq (tgt := 12) hx hb d_O_runs_5 (by decide) (fun _ => ?_) (fun h9 => absurd h9 (by decide +kernel))
  refine lv_iconst (v := 0) hx hb d_O_runs_12 (by decide) ?_
  refine va_put (D := (dC, dI)) (ci := 7) (v := .int 0) (ty := .int) (C := R_O) (T := F_O) (N := 27) hx hb hw0 in_O ft_O tk_O nk_O hown hK hP hD hS 0 rfl rfl 0 (by decide) (hw0 (.fieldLink R_O 62 "TextKeeperModel" "thrown" "I") (List.mem_of_getElem? (i := 168) rfl)) (fun _ h9 => h9) rfl (by decide +kernel) rfl rfl (Nat.le_of_ble_eq_true rfl) d_O_runs_13 (fun H locs hP hD hS => ?_)
  replace hP : va_P (dC, dI) vwCl [(h0, .inr (7, [.int 0, .int 0, .int i_lasts, v_buffer, .int i_size, .int i_documents, v_gone, v_first, v_many, v_lengths, v_authors, v_sums, v_row, v_made, .int i_madeSize, v_base, .int i_baseSize, v_text, .int i_textSize, .int i_textSteps, v_other, .int i_otherSize, v_piece, .int i_pieceSize, .int i_at, .int i_end, .int i_value]))] H := hP
  replace hD : va_D A [(h0, .inr (7, [.int 0, .int 0, .int i_lasts, v_buffer, .int i_size, .int i_documents, v_gone, v_first, v_many, v_lengths, v_authors, v_sums, v_row, v_made, .int i_madeSize, v_base, .int i_baseSize, v_text, .int i_textSize, .int i_textSteps, v_other, .int i_otherSize, v_piece, .int i_pieceSize, .int i_at, .int i_end, .int i_value]))] := hD
  refine lv_aload_n hx hb d_O_runs_16 rfl (lv_at hl 0 rfl) ?_
  refine va_get (D := (dC, dI)) (ci := 7) (v := .int 0) (C := R_O) (T := F_O) (N := 27) hx hb hw0 in_O hown hK hP 0 rfl rfl 1 (by decide) (hw0 (.fieldLink R_O 65 "TextKeeperModel" "down" "Z") (List.mem_of_getElem? (i := 167) rfl)) (fun _ h9 => h9) rfl d_O_runs_17 ?_
  refine lv_if_ne (tgt := 27) hx hb d_O_runs_20 (by decide) (fun h9 => absurd h9 (by decide +kernel)) (fun _ => ?_)
  refine lv_iconst (v := 1) hx hb d_O_runs_23 (by decide) ?_
  refine lv_goto (tgt := 28) hx hb d_O_runs_24 (by decide) ?_
  have hP9 := hP.sub (ws' := [(h0, .inr (7, [.int 0, .int 0, .int i_lasts, v_buffer, .int i_size, .int i_documents, v_gone, v_first, v_many, v_lengths, v_authors, v_sums, v_row, v_made, .int i_madeSize, v_base, .int i_baseSize, v_text, .int i_textSize, .int i_textSteps, v_other, .int i_otherSize, v_piece, .int i_pieceSize, .int i_at, .int i_end, .int i_value]))]) [0] rfl
  have hD9 := hD.sub (ws' := [(h0, .inr (7, [.int 0, .int 0, .int i_lasts, v_buffer, .int i_size, .int i_documents, v_gone, v_first, v_many, v_lengths, v_authors, v_sums, v_row, v_made, .int i_madeSize, v_base, .int i_baseSize, v_text, .int i_textSize, .int i_textSteps, v_other, .int i_otherSize, v_piece, .int i_pieceSize, .int i_at, .int i_end, .int i_value]))]) [0] (by decide) rfl
  have hK9 := hK.sub (tys' := []) [] rfl
  exact W.zret (v := 1) (ty := .boolean) hx hb hr rfl (fun t ht hW => ⟨⟨1, (), rfl, rfl, by rw [ht]; exact hP9, va_K.moved hW.alike hK9, hD9⟩, hS.F ht⟩) hS.2.2 d_O_runs_28
set_option maxHeartbeats 4000000 in
set_option maxRecDepth 100000 in
theorem m_thrown (l : Launch) (dC : Nat → ClassId) (dI : Nat → Nat → Nat) (h0 : Nat) (i_thrown : Int32) (i_down : Int32) (i_lasts : Int32) (v_buffer : Value) (i_size : Int32) (i_documents : Int32) (v_gone : Value) (v_first : Value) (v_many : Value) (v_lengths : Value) (v_authors : Value) (v_sums : Value) (v_row : Value) (v_made : Value) (i_madeSize : Int32) (v_base : Value) (i_baseSize : Int32) (v_text : Value) (i_textSize : Int32) (i_textSteps : Int32) (v_other : Value) (i_otherSize : Int32) (v_piece : Value) (i_pieceSize : Int32) (i_at : Int32) (i_end : Int32) (i_value : Int32)  : Met l y_O_thrown k_O_thrown ({ frames := 0, cells := 0, slots := 0, locals := 0 } : Room) (va_Pc [.ref h0] (pc_R (dC, dI) [(h0, .inr (7, [.int i_thrown, .int i_down, .int i_lasts, v_buffer, .int i_size, .int i_documents, v_gone, v_first, v_many, v_lengths, v_authors, v_sums, v_row, v_made, .int i_madeSize, v_base, .int i_baseSize, v_text, .int i_textSize, .int i_textSteps, v_other, .int i_otherSize, v_piece, .int i_pieceSize, .int i_at, .int i_end, .int i_value]))] [])) (vp_Si (fun r => r = i_thrown)) 0 0 (fun _ => False) := by
  refine Met.ofW (cc := prog_9_method_2_code) (maxL := 1) (ret := (some .int)) (by decide) rfl ?_
  intro p e s m args below meth c s₁ B hml hv
  obtain ⟨rfl, hP, hK, hN⟩ := hv
  have hx := B.exec
  have hb := B.bytes
  have hr := B.returns
  have hts := atoms_spec (ws := k_O_thrown) B.pre
  have hw0 : ∀ w ∈ w0, w.before _ s = true := fun w h => hts w (List.mem_cons_of_mem _ h)
  have hown : s.vm.findClass R_O = some m.cls := findClass_of_methodNamed B.named
  have hlocks := B.notSynchronized
  have hP : va_P (dC, dI) vwCl [(h0, .inr (7, [.int i_thrown, .int i_down, .int i_lasts, v_buffer, .int i_size, .int i_documents, v_gone, v_first, v_many, v_lengths, v_authors, v_sums, v_row, v_made, .int i_madeSize, v_base, .int i_baseSize, v_text, .int i_textSize, .int i_textSteps, v_other, .int i_otherSize, v_piece, .int i_pieceSize, .int i_at, .int i_end, .int i_value]))] s.heap := hP
  have hl := lv_entry ([.ref h0]) (n := 1) (Nat.le_of_ble_eq_true rfl)
  rw [lg_entry_eq]
  generalize (lg_sl ([.ref h0]) ++ List.replicate (1 - (lg_sl ([.ref h0])).length) Slot.unset).toArray = ls at hl ⊢
  have hl : lv_has ls 1 [(0, .ref h0)] := hl
  refine lv_aload_n hx hb d_O_thrown_0 rfl (lv_at hl 0 rfl) ?_
  refine va_get (D := (dC, dI)) (ci := 7) (v := .int i_thrown) (C := R_O) (T := F_O) (N := 27) hx hb hw0 in_O hown hK hP 0 rfl rfl 0 (by decide) (hw0 (.fieldLink R_O 62 "TextKeeperModel" "thrown" "I") (List.mem_of_getElem? (i := 168) rfl)) (fun _ h9 => h9) rfl d_O_thrown_1 ?_
  exact W.iret (v := i_thrown) hx hb hr (fun t ht hW => ⟨i_thrown, rfl, rfl, ht⟩) (fun q h => by cases h) d_O_thrown_4
set_option maxHeartbeats 4000000 in
set_option maxRecDepth 100000 in
theorem m_isDocument (l : Launch) (dC : Nat → ClassId) (dI : Nat → Nat → Nat) (h0 : Nat) (i_thrown : Int32) (i_down : Int32) (i_lasts : Int32) (v_buffer : Value) (i_size : Int32) (v_gone : Value) (v_first : Value) (v_many : Value) (v_lengths : Value) (v_authors : Value) (v_sums : Value) (v_row : Value) (v_made : Value) (i_madeSize : Int32) (v_base : Value) (i_baseSize : Int32) (v_text : Value) (i_textSize : Int32) (i_textSteps : Int32) (v_other : Value) (i_otherSize : Int32) (v_piece : Value) (i_pieceSize : Int32) (i_at : Int32) (i_end : Int32) (i_value : Int32) (a1 : Int32)  : Met l y_O_isDocument k_O_isDocument ({ frames := 0, cells := 0, slots := 0, locals := 0 } : Room) (va_Pc [.ref h0, .int a1] (pc_R (dC, dI) [(h0, .inr (7, [.int i_thrown, .int i_down, .int i_lasts, v_buffer, .int i_size, .int 0, v_gone, v_first, v_many, v_lengths, v_authors, v_sums, v_row, v_made, .int i_madeSize, v_base, .int i_baseSize, v_text, .int i_textSize, .int i_textSteps, v_other, .int i_otherSize, v_piece, .int i_pieceSize, .int i_at, .int i_end, .int i_value]))] [])) (vp_Si (fun r => r = 0)) 0 0 (fun _ => False) := by
  refine Met.ofW (cc := prog_9_method_7_code) (maxL := 2) (ret := (some .boolean)) (by decide) rfl ?_
  intro p e s m args below meth c s₁ B hml hv
  obtain ⟨rfl, hP, hK, hN⟩ := hv
  have hx := B.exec
  have hb := B.bytes
  have hr := B.returns
  have hts := atoms_spec (ws := k_O_isDocument) B.pre
  have hw0 : ∀ w ∈ w0, w.before _ s = true := fun w h => hts w (List.mem_cons_of_mem _ h)
  have hown : s.vm.findClass R_O = some m.cls := findClass_of_methodNamed B.named
  have hlocks := B.notSynchronized
  have hP : va_P (dC, dI) vwCl [(h0, .inr (7, [.int i_thrown, .int i_down, .int i_lasts, v_buffer, .int i_size, .int 0, v_gone, v_first, v_many, v_lengths, v_authors, v_sums, v_row, v_made, .int i_madeSize, v_base, .int i_baseSize, v_text, .int i_textSize, .int i_textSteps, v_other, .int i_otherSize, v_piece, .int i_pieceSize, .int i_at, .int i_end, .int i_value]))] s.heap := hP
  have hl := lv_entry ([.ref h0, .int a1]) (n := 2) (Nat.le_of_ble_eq_true rfl)
  rw [lg_entry_eq]
  generalize (lg_sl ([.ref h0, .int a1]) ++ List.replicate (2 - (lg_sl ([.ref h0, .int a1])).length) Slot.unset).toArray = ls at hl ⊢
  have hl : lv_has ls 2 [(0, .ref h0), (1, .int a1)] := hl
  refine lv_iload_n hx hb d_O_isDocument_0 rfl (lv_at hl 1 rfl) ?_
  refine lv_if_lt (tgt := 25) hx hb d_O_isDocument_1 (by decide) (fun c_1 => ?_) (fun c_1 => ?_)
  · refine lv_iconst (v := 0) hx hb d_O_isDocument_25 (by decide) ?_
    exact W.zret (v := 0) (ty := .boolean) hx hb hr rfl (fun t ht hW => ⟨0, rfl, rfl, ht⟩) (fun q h => by cases h) d_O_isDocument_26
  · refine lv_iload_n hx hb d_O_isDocument_4 rfl (lv_at hl 1 rfl) ?_
    refine lv_aload_n hx hb d_O_isDocument_5 rfl (lv_at hl 0 rfl) ?_
    refine va_get (D := (dC, dI)) (ci := 7) (v := .int 0) (C := R_O) (T := F_O) (N := 27) hx hb hw0 in_O hown hK hP 0 rfl rfl 5 (by decide) (hw0 (.fieldLink R_O 76 "TextKeeperModel" "documents" "I") (List.mem_of_getElem? (i := 169) rfl)) (fun _ h9 => h9) rfl d_O_isDocument_6 ?_
    refine lv_icmp_ge (tgt := 25) hx hb d_O_isDocument_9 (by decide) (fun c_2 => ?_) (fun c_2 => (x_nn c_1 c_2).elim)
    refine lv_iconst (v := 0) hx hb d_O_isDocument_25 (by decide) ?_
    exact W.zret (v := 0) (ty := .boolean) hx hb hr rfl (fun t ht hW => ⟨0, rfl, rfl, ht⟩) (fun q h => by cases h) d_O_isDocument_26
set_option maxHeartbeats 4000000 in
set_option maxRecDepth 100000 in
theorem m_isAsked (l : Launch) (dC : Nat → ClassId) (dI : Nat → Nat → Nat) (h0 : Nat) (i_thrown : Int32) (i_down : Int32) (i_lasts : Int32) (v_buffer : Value) (i_size : Int32) (v_gone : Value) (v_first : Value) (v_many : Value) (v_lengths : Value) (v_authors : Value) (v_sums : Value) (v_row : Value) (v_made : Value) (i_madeSize : Int32) (v_base : Value) (i_baseSize : Int32) (v_text : Value) (i_textSize : Int32) (i_textSteps : Int32) (v_other : Value) (i_otherSize : Int32) (v_piece : Value) (i_pieceSize : Int32) (i_at : Int32) (i_end : Int32) (i_value : Int32) (a1 : Int32) (a2 : Int32)  : Met l y_O_isAsked k_O_isAsked ({ frames := 1, cells := 0, slots := 0, locals := 21 } : Room) (va_Pc [.ref h0, .int a1, .int a2] (pc_R (dC, dI) [(h0, .inr (7, [.int i_thrown, .int i_down, .int i_lasts, v_buffer, .int i_size, .int 0, v_gone, v_first, v_many, v_lengths, v_authors, v_sums, v_row, v_made, .int i_madeSize, v_base, .int i_baseSize, v_text, .int i_textSize, .int i_textSteps, v_other, .int i_otherSize, v_piece, .int i_pieceSize, .int i_at, .int i_end, .int i_value]))] [])) (vp_Si (fun r => r = 0)) 0 0 (fun _ => False) := by
  refine Met.ofW (cc := prog_9_method_8_code) (maxL := 3) (ret := (some .boolean)) (by decide) rfl ?_
  intro p e s m args below meth c s₁ B hml hv
  obtain ⟨rfl, hP, hK, hN⟩ := hv
  have hx := B.exec
  have hb := B.bytes
  have hr := B.returns
  have hts := atoms_spec (ws := k_O_isAsked) B.pre
  have hw0 : ∀ w ∈ w0, w.before _ s = true := fun w h => hts w (List.mem_cons_of_mem _ h)
  have hown : s.vm.findClass R_O = some m.cls := findClass_of_methodNamed B.named
  have hlocks := B.notSynchronized
  have hP : va_P (dC, dI) vwCl [(h0, .inr (7, [.int i_thrown, .int i_down, .int i_lasts, v_buffer, .int i_size, .int 0, v_gone, v_first, v_many, v_lengths, v_authors, v_sums, v_row, v_made, .int i_madeSize, v_base, .int i_baseSize, v_text, .int i_textSize, .int i_textSteps, v_other, .int i_otherSize, v_piece, .int i_pieceSize, .int i_at, .int i_end, .int i_value]))] s.heap := hP
  have hl := lv_entry ([.ref h0, .int a1, .int a2]) (n := 3) (Nat.le_of_ble_eq_true rfl)
  rw [lg_entry_eq]
  generalize (lg_sl ([.ref h0, .int a1, .int a2]) ++ List.replicate (3 - (lg_sl ([.ref h0, .int a1, .int a2])).length) Slot.unset).toArray = ls at hl ⊢
  have hl : lv_has ls 3 [(0, .ref h0), (1, .int a1), (2, .int a2)] := hl
  refine lv_aload_n hx hb d_O_isAsked_0 rfl (lv_at hl 0 rfl) ?_
  refine lv_iload_n hx hb d_O_isAsked_1 rfl (lv_at hl 1 rfl) ?_
  have hPc := hP.sub (ws' := [(h0, .inr (7, [.int i_thrown, .int i_down, .int i_lasts, v_buffer, .int i_size, .int 0, v_gone, v_first, v_many, v_lengths, v_authors, v_sums, v_row, v_made, .int i_madeSize, v_base, .int i_baseSize, v_text, .int i_textSize, .int i_textSteps, v_other, .int i_otherSize, v_piece, .int i_pieceSize, .int i_at, .int i_end, .int i_value]))]) [0] rfl
  have hKc := hK.sub (tys' := []) [] rfl
  refine ps_i (va_runV (As := [.int a1]) (rest := []) ⟨hx, hb, hml, hown, hw0⟩ (m_isDocument l dC dI h0 i_thrown i_down i_lasts v_buffer i_size v_gone v_first v_many v_lengths v_authors v_sums v_row v_made i_madeSize v_base i_baseSize v_text i_textSize i_textSteps v_other i_otherSize v_piece i_pieceSize i_at i_end i_value a1) (cwV 1 hw0 (gd_V 170 171 172 173 174 rfl rfl rfl rfl rfl) rfl rfl rfl (by decide +kernel) ⟨by decide +kernel, by decide +kernel⟩) (prV_R hPc hKc hN (va_recv hKc hPc (ci := 7) (q0 := 0) rfl rfl)) rfl rfl hl.1 rfl (lv_room (Nat.le_of_ble_eq_true rfl)) d_O_isAsked_2 ⟨by decide +kernel, by decide +kernel⟩) (fun r_1 hr_1 => ?_)
  obtain rfl : r_1 = 0 := hr_1
  refine lv_if_eq (tgt := 32) hx hb d_O_isAsked_5 (by decide) (fun _ => ?_) (fun h9 => absurd h9 (by decide +kernel))
  refine lv_iconst (v := 0) hx hb d_O_isAsked_32 (by decide) ?_
  exact W.zret (v := 0) (ty := .boolean) hx hb hr rfl (fun t ht hW => ⟨0, rfl, rfl, ht⟩) (fun q h => by cases h) d_O_isAsked_33
set_option maxHeartbeats 4000000 in
set_option maxRecDepth 100000 in
theorem m_kept (l : Launch) (dC : Nat → ClassId) (dI : Nat → Nat → Nat) (h0 : Nat) (i_thrown : Int32) (i_down : Int32) (i_lasts : Int32) (v_buffer : Value) (i_size : Int32) (v_gone : Value) (v_first : Value) (v_many : Value) (v_lengths : Value) (v_authors : Value) (v_sums : Value) (v_row : Value) (v_made : Value) (i_madeSize : Int32) (v_base : Value) (i_baseSize : Int32) (v_text : Value) (i_textSize : Int32) (i_textSteps : Int32) (v_other : Value) (i_otherSize : Int32) (v_piece : Value) (i_pieceSize : Int32) (i_at : Int32) (i_end : Int32) (i_value : Int32) (a1 : Int32) (a2 : Int32)  : Met l y_O_kept k_O_kept ({ frames := 1, cells := 0, slots := 0, locals := 21 } : Room) (va_Pc [.ref h0, .int a1, .int a2] (pc_R (dC, dI) [(h0, .inr (7, [.int i_thrown, .int i_down, .int i_lasts, v_buffer, .int i_size, .int 0, v_gone, v_first, v_many, v_lengths, v_authors, v_sums, v_row, v_made, .int i_madeSize, v_base, .int i_baseSize, v_text, .int i_textSize, .int i_textSteps, v_other, .int i_otherSize, v_piece, .int i_pieceSize, .int i_at, .int i_end, .int i_value]))] [])) (vp_Si (fun r => r = (-1))) 0 0 (fun _ => False) := by
  refine Met.ofW (cc := prog_9_method_9_code) (maxL := 3) (ret := (some .int)) (by decide) rfl ?_
  intro p e s m args below meth c s₁ B hml hv
  obtain ⟨rfl, hP, hK, hN⟩ := hv
  have hx := B.exec
  have hb := B.bytes
  have hr := B.returns
  have hts := atoms_spec (ws := k_O_kept) B.pre
  have hw0 : ∀ w ∈ w0, w.before _ s = true := fun w h => hts w (List.mem_cons_of_mem _ h)
  have hown : s.vm.findClass R_O = some m.cls := findClass_of_methodNamed B.named
  have hlocks := B.notSynchronized
  have hP : va_P (dC, dI) vwCl [(h0, .inr (7, [.int i_thrown, .int i_down, .int i_lasts, v_buffer, .int i_size, .int 0, v_gone, v_first, v_many, v_lengths, v_authors, v_sums, v_row, v_made, .int i_madeSize, v_base, .int i_baseSize, v_text, .int i_textSize, .int i_textSteps, v_other, .int i_otherSize, v_piece, .int i_pieceSize, .int i_at, .int i_end, .int i_value]))] s.heap := hP
  have hl := lv_entry ([.ref h0, .int a1, .int a2]) (n := 3) (Nat.le_of_ble_eq_true rfl)
  rw [lg_entry_eq]
  generalize (lg_sl ([.ref h0, .int a1, .int a2]) ++ List.replicate (3 - (lg_sl ([.ref h0, .int a1, .int a2])).length) Slot.unset).toArray = ls at hl ⊢
  have hl : lv_has ls 3 [(0, .ref h0), (1, .int a1), (2, .int a2)] := hl
  refine lv_aload_n hx hb d_O_kept_0 rfl (lv_at hl 0 rfl) ?_
  refine lv_iload_n hx hb d_O_kept_1 rfl (lv_at hl 1 rfl) ?_
  have hPc := hP.sub (ws' := [(h0, .inr (7, [.int i_thrown, .int i_down, .int i_lasts, v_buffer, .int i_size, .int 0, v_gone, v_first, v_many, v_lengths, v_authors, v_sums, v_row, v_made, .int i_madeSize, v_base, .int i_baseSize, v_text, .int i_textSize, .int i_textSteps, v_other, .int i_otherSize, v_piece, .int i_pieceSize, .int i_at, .int i_end, .int i_value]))]) [0] rfl
  have hKc := hK.sub (tys' := []) [] rfl
  refine ps_i (va_runV (As := [.int a1]) (rest := []) ⟨hx, hb, hml, hown, hw0⟩ (m_isDocument l dC dI h0 i_thrown i_down i_lasts v_buffer i_size v_gone v_first v_many v_lengths v_authors v_sums v_row v_made i_madeSize v_base i_baseSize v_text i_textSize i_textSteps v_other i_otherSize v_piece i_pieceSize i_at i_end i_value a1) (cwV 1 hw0 (gd_V 170 171 172 173 174 rfl rfl rfl rfl rfl) rfl rfl rfl (by decide +kernel) ⟨by decide +kernel, by decide +kernel⟩) (prV_R hPc hKc hN (va_recv hKc hPc (ci := 7) (q0 := 0) rfl rfl)) rfl rfl hl.1 rfl (lv_room (Nat.le_of_ble_eq_true rfl)) d_O_kept_2 ⟨by decide +kernel, by decide +kernel⟩) (fun r_1 hr_1 => ?_)
  obtain rfl : r_1 = 0 := hr_1
  refine lv_if_eq (tgt := 42) hx hb d_O_kept_5 (by decide) (fun _ => ?_) (fun h9 => absurd h9 (by decide +kernel))
  refine lv_iconst (v := (-1)) hx hb d_O_kept_42 (by decide) ?_
  exact W.iret (v := (-1)) hx hb hr (fun t ht hW => ⟨(-1), rfl, rfl, ht⟩) (fun q h => by cases h) d_O_kept_43
set_option maxHeartbeats 4000000 in
set_option maxRecDepth 100000 in
theorem m_writes (l : Launch) (dC : Nat → ClassId) (dI : Nat → Nat → Nat) (sz : Nat) (h0 : Nat) (i_thrown : Int32) (i_down : Int32) (v_buffer : Value) (i_size : Int32) (i_documents : Int32) (v_gone : Value) (v_first : Value) (v_many : Value) (v_lengths : Value) (v_authors : Value) (v_sums : Value) (v_row : Value) (v_made : Value) (i_madeSize : Int32) (v_base : Value) (i_baseSize : Int32) (v_text : Value) (i_textSize : Int32) (i_textSteps : Int32) (v_other : Value) (i_otherSize : Int32) (v_piece : Value) (i_pieceSize : Int32) (i_at : Int32) (i_end : Int32) (i_value : Int32) (a1 : Int32)  : Met l y_O_writes k_O_writes ({ frames := 0, cells := 0, slots := 0, locals := 0 } : Room) (va_Pc [.ref h0, .int a1] (pc_E (dC, dI) [(h0, .inr (7, [.int i_thrown, .int i_down, .int (-1), v_buffer, .int i_size, .int i_documents, v_gone, v_first, v_many, v_lengths, v_authors, v_sums, v_row, v_made, .int i_madeSize, v_base, .int i_baseSize, v_text, .int i_textSize, .int i_textSteps, v_other, .int i_otherSize, v_piece, .int i_pieceSize, .int i_at, .int i_end, .int i_value]))] [] sz)) (va_Qi (fun (r : Int32) (_ : Unit) => r = 1) (fun (_ : Unit) t => at_E (dC, dI) (va_A [(h0, .inr (7, [.int i_thrown, .int i_down, .int (-1), v_buffer, .int i_size, .int i_documents, v_gone, v_first, v_many, v_lengths, v_authors, v_sums, v_row, v_made, .int i_madeSize, v_base, .int i_baseSize, v_text, .int i_textSize, .int i_textSteps, v_other, .int i_otherSize, v_piece, .int i_pieceSize, .int i_at, .int i_end, .int i_value]))] sz) [(h0, .inr (7, [.int i_thrown, .int i_down, .int (-1), v_buffer, .int i_size, .int i_documents, v_gone, v_first, v_many, v_lengths, v_authors, v_sums, v_row, v_made, .int i_madeSize, v_base, .int i_baseSize, v_text, .int i_textSize, .int i_textSteps, v_other, .int i_otherSize, v_piece, .int i_pieceSize, .int i_at, .int i_end, .int i_value]))] [] t) (va_A [(h0, .inr (7, [.int i_thrown, .int i_down, .int (-1), v_buffer, .int i_size, .int i_documents, v_gone, v_first, v_many, v_lengths, v_authors, v_sums, v_row, v_made, .int i_madeSize, v_base, .int i_baseSize, v_text, .int i_textSize, .int i_textSteps, v_other, .int i_otherSize, v_piece, .int i_pieceSize, .int i_at, .int i_end, .int i_value]))] sz)) 0 0 (va_A [(h0, .inr (7, [.int i_thrown, .int i_down, .int (-1), v_buffer, .int i_size, .int i_documents, v_gone, v_first, v_many, v_lengths, v_authors, v_sums, v_row, v_made, .int i_madeSize, v_base, .int i_baseSize, v_text, .int i_textSize, .int i_textSteps, v_other, .int i_otherSize, v_piece, .int i_pieceSize, .int i_at, .int i_end, .int i_value]))] sz) := by
  refine Met.ofW (cc := prog_9_method_4_code) (maxL := 2) (ret := (some .boolean)) (by decide) rfl ?_
  intro p e s m args below meth c s₁ B hml hv
  obtain ⟨rfl, hsz, hP, hK, hD0, hN⟩ := hv
  have hx := B.exec
  have hb := B.bytes
  have hr := B.returns
  have hts := atoms_spec (ws := k_O_writes) B.pre
  have hw0 : ∀ w ∈ w0, w.before _ s = true := fun w h => hts w (List.mem_cons_of_mem _ h)
  have hown : s.vm.findClass R_O = some m.cls := findClass_of_methodNamed B.named
  have hlocks := B.notSynchronized
  subst hsz
  have hD := hD0.self (sz := s.heap.size)
  generalize hAe : va_A [(h0, .inr (7, [.int i_thrown, .int i_down, .int (-1), v_buffer, .int i_size, .int i_documents, v_gone, v_first, v_many, v_lengths, v_authors, v_sums, v_row, v_made, .int i_madeSize, v_base, .int i_baseSize, v_text, .int i_textSize, .int i_textSteps, v_other, .int i_otherSize, v_piece, .int i_pieceSize, .int i_at, .int i_end, .int i_value]))] s.heap.size = A at hD ⊢
  have hA : ∀ q : Nat, s.heap.size ≤ q → A q := fun q h => by rw [← hAe]; exact Or.inr h
  have hS : va_S A s.heap s.heap [] := va_S.rf
  have hP : va_P (dC, dI) vwCl [(h0, .inr (7, [.int i_thrown, .int i_down, .int (-1), v_buffer, .int i_size, .int i_documents, v_gone, v_first, v_many, v_lengths, v_authors, v_sums, v_row, v_made, .int i_madeSize, v_base, .int i_baseSize, v_text, .int i_textSize, .int i_textSteps, v_other, .int i_otherSize, v_piece, .int i_pieceSize, .int i_at, .int i_end, .int i_value]))] s.heap := hP
  have hl := lv_entry ([.ref h0, .int a1]) (n := 2) (Nat.le_of_ble_eq_true rfl)
  rw [lg_entry_eq]
  generalize (lg_sl ([.ref h0, .int a1]) ++ List.replicate (2 - (lg_sl ([.ref h0, .int a1])).length) Slot.unset).toArray = ls at hl ⊢
  have hl : lv_has ls 2 [(0, .ref h0), (1, .int a1)] := hl
  refine lv_aload_n hx hb d_O_writes_0 rfl (lv_at hl 0 rfl) ?_
  refine va_get (D := (dC, dI)) (ci := 7) (v := .int (-1)) (C := R_O) (T := F_O) (N := 27) hx hb hw0 in_O hown hK hP 0 rfl rfl 2 (by decide) (hw0 (.fieldLink R_O 9 "TextKeeperModel" "lasts" "I") (List.mem_of_getElem? (i := 175) rfl)) (fun _ h9 => h9) rfl d_O_writes_1 ?_
  refine lv_iconst (v := (-1)) hx hb d_O_writes_4 (by decide) ?_
  refine lv_icmp_eq (tgt := 16) hx hb d_O_writes_5 (by decide) (fun _ => ?_) (fun h9 => absurd h9 (by decide +kernel))
  refine lv_aload_n hx hb d_O_writes_16 rfl (lv_at hl 0 rfl) ?_
  refine lv_aload_n hx hb d_O_writes_17 rfl (lv_at hl 0 rfl) ?_
  refine va_get (D := (dC, dI)) (ci := 7) (v := .int (-1)) (C := R_O) (T := F_O) (N := 27) hx hb hw0 in_O hown hK hP 0 rfl rfl 2 (by decide) (hw0 (.fieldLink R_O 9 "TextKeeperModel" "lasts" "I") (List.mem_of_getElem? (i := 175) rfl)) (fun _ h9 => h9) rfl d_O_writes_18 ?_
  refine lv_iconst (v := (-1)) hx hb d_O_writes_21 (by decide) ?_
  refine lv_icmp_ne (tgt := 29) hx hb d_O_writes_22 (by decide) (fun h9 => absurd h9 (by decide +kernel)) (fun _ => ?_)
  refine lv_iconst (v := (-1)) hx hb d_O_writes_25 (by decide) ?_
  refine lv_goto (tgt := 35) hx hb d_O_writes_26 (by decide) ?_
  refine va_put (D := (dC, dI)) (ci := 7) (v := .int (-1)) (ty := .int) (C := R_O) (T := F_O) (N := 27) hx hb hw0 in_O ft_O tk_O nk_O hown hK hP hD hS 0 rfl rfl 2 (by decide) (hw0 (.fieldLink R_O 9 "TextKeeperModel" "lasts" "I") (List.mem_of_getElem? (i := 175) rfl)) (fun _ h9 => h9) rfl (by decide +kernel) rfl rfl (Nat.le_of_ble_eq_true rfl) d_O_writes_35 (fun H locs hP hD hS => ?_)
  replace hP : va_P (dC, dI) vwCl [(h0, .inr (7, [.int i_thrown, .int i_down, .int (-1), v_buffer, .int i_size, .int i_documents, v_gone, v_first, v_many, v_lengths, v_authors, v_sums, v_row, v_made, .int i_madeSize, v_base, .int i_baseSize, v_text, .int i_textSize, .int i_textSteps, v_other, .int i_otherSize, v_piece, .int i_pieceSize, .int i_at, .int i_end, .int i_value]))] H := hP
  replace hD : va_D A [(h0, .inr (7, [.int i_thrown, .int i_down, .int (-1), v_buffer, .int i_size, .int i_documents, v_gone, v_first, v_many, v_lengths, v_authors, v_sums, v_row, v_made, .int i_madeSize, v_base, .int i_baseSize, v_text, .int i_textSize, .int i_textSteps, v_other, .int i_otherSize, v_piece, .int i_pieceSize, .int i_at, .int i_end, .int i_value]))] := hD
  refine lv_iconst (v := 1) hx hb d_O_writes_38 (by decide) ?_
  have hP9 := hP.sub (ws' := [(h0, .inr (7, [.int i_thrown, .int i_down, .int (-1), v_buffer, .int i_size, .int i_documents, v_gone, v_first, v_many, v_lengths, v_authors, v_sums, v_row, v_made, .int i_madeSize, v_base, .int i_baseSize, v_text, .int i_textSize, .int i_textSteps, v_other, .int i_otherSize, v_piece, .int i_pieceSize, .int i_at, .int i_end, .int i_value]))]) [0] rfl
  have hD9 := hD.sub (ws' := [(h0, .inr (7, [.int i_thrown, .int i_down, .int (-1), v_buffer, .int i_size, .int i_documents, v_gone, v_first, v_many, v_lengths, v_authors, v_sums, v_row, v_made, .int i_madeSize, v_base, .int i_baseSize, v_text, .int i_textSize, .int i_textSteps, v_other, .int i_otherSize, v_piece, .int i_pieceSize, .int i_at, .int i_end, .int i_value]))]) [0] (by decide) rfl
  have hK9 := hK.sub (tys' := []) [] rfl
  exact W.zret (v := 1) (ty := .boolean) hx hb hr rfl (fun t ht hW => ⟨⟨1, (), rfl, rfl, by rw [ht]; exact hP9, va_K.moved hW.alike hK9, hD9⟩, hS.F ht⟩) hS.2.2 d_O_writes_39
set_option maxHeartbeats 4000000 in
set_option maxRecDepth 100000 in
theorem m_make (l : Launch) (dC : Nat → ClassId) (dI : Nat → Nat → Nat) (sz : Nat) (h0 : Nat) (i_thrown : Int32) (v_buffer : Value) (i_size : Int32) (v_gone : Value) (v_first : Value) (v_many : Value) (v_lengths : Value) (v_authors : Value) (v_sums : Value) (v_row : Value) (v_made : Value) (i_madeSize : Int32) (v_base : Value) (i_baseSize : Int32) (v_text : Value) (i_textSize : Int32) (i_textSteps : Int32) (v_other : Value) (i_otherSize : Int32) (v_piece : Value) (i_pieceSize : Int32) (i_at : Int32) (i_end : Int32) (i_value : Int32)  : Met l y_O_make k_O_make ({ frames := 1, cells := 0, slots := 0, locals := 21 } : Room) (va_Pc [.ref h0] (pc_E (dC, dI) [(h0, .inr (7, [.int i_thrown, .int 0, .int (-1), v_buffer, .int i_size, .int 0, v_gone, v_first, v_many, v_lengths, v_authors, v_sums, v_row, v_made, .int i_madeSize, v_base, .int i_baseSize, v_text, .int i_textSize, .int i_textSteps, v_other, .int i_otherSize, v_piece, .int i_pieceSize, .int i_at, .int i_end, .int i_value]))] [] sz)) (va_Qi (fun (r : Int32) (_ : Unit) => r = 0) (fun (_ : Unit) t => at_E (dC, dI) (va_A [(h0, .inr (7, [.int i_thrown, .int 0, .int (-1), v_buffer, .int i_size, .int 0, v_gone, v_first, v_many, v_lengths, v_authors, v_sums, v_row, v_made, .int i_madeSize, v_base, .int i_baseSize, v_text, .int i_textSize, .int i_textSteps, v_other, .int i_otherSize, v_piece, .int i_pieceSize, .int i_at, .int i_end, .int i_value]))] sz) [(h0, .inr (7, [.int 0, .int 0, .int (-1), v_buffer, .int i_size, .int 1, v_gone, v_first, v_many, v_lengths, v_authors, v_sums, v_row, v_made, .int i_madeSize, v_base, .int i_baseSize, v_text, .int i_textSize, .int i_textSteps, v_other, .int i_otherSize, v_piece, .int i_pieceSize, .int i_at, .int i_end, .int i_value]))] [] t) (va_A [(h0, .inr (7, [.int i_thrown, .int 0, .int (-1), v_buffer, .int i_size, .int 0, v_gone, v_first, v_many, v_lengths, v_authors, v_sums, v_row, v_made, .int i_madeSize, v_base, .int i_baseSize, v_text, .int i_textSize, .int i_textSteps, v_other, .int i_otherSize, v_piece, .int i_pieceSize, .int i_at, .int i_end, .int i_value]))] sz)) 0 0 (va_A [(h0, .inr (7, [.int i_thrown, .int 0, .int (-1), v_buffer, .int i_size, .int 0, v_gone, v_first, v_many, v_lengths, v_authors, v_sums, v_row, v_made, .int i_madeSize, v_base, .int i_baseSize, v_text, .int i_textSize, .int i_textSteps, v_other, .int i_otherSize, v_piece, .int i_pieceSize, .int i_at, .int i_end, .int i_value]))] sz) := by
  refine Met.ofW (cc := prog_9_method_16_code) (maxL := 1) (ret := (some .int)) (by decide) rfl ?_
  intro p e s m args below meth c s₁ B hml hv
  obtain ⟨rfl, hsz, hP, hK, hD0, hN⟩ := hv
  have hx := B.exec
  have hb := B.bytes
  have hr := B.returns
  have hts := atoms_spec (ws := k_O_make) B.pre
  have hw0 : ∀ w ∈ w0, w.before _ s = true := fun w h => hts w (List.mem_cons_of_mem _ h)
  have hown : s.vm.findClass R_O = some m.cls := findClass_of_methodNamed B.named
  have hlocks := B.notSynchronized
  subst hsz
  have hD := hD0.self (sz := s.heap.size)
  generalize hAe : va_A [(h0, .inr (7, [.int i_thrown, .int 0, .int (-1), v_buffer, .int i_size, .int 0, v_gone, v_first, v_many, v_lengths, v_authors, v_sums, v_row, v_made, .int i_madeSize, v_base, .int i_baseSize, v_text, .int i_textSize, .int i_textSteps, v_other, .int i_otherSize, v_piece, .int i_pieceSize, .int i_at, .int i_end, .int i_value]))] s.heap.size = A at hD ⊢
  have hA : ∀ q : Nat, s.heap.size ≤ q → A q := fun q h => by rw [← hAe]; exact Or.inr h
  have hS : va_S A s.heap s.heap [] := va_S.rf
  have hP : va_P (dC, dI) vwCl [(h0, .inr (7, [.int i_thrown, .int 0, .int (-1), v_buffer, .int i_size, .int 0, v_gone, v_first, v_many, v_lengths, v_authors, v_sums, v_row, v_made, .int i_madeSize, v_base, .int i_baseSize, v_text, .int i_textSize, .int i_textSteps, v_other, .int i_otherSize, v_piece, .int i_pieceSize, .int i_at, .int i_end, .int i_value]))] s.heap := hP
  have hl := lv_entry ([.ref h0]) (n := 1) (Nat.le_of_ble_eq_true rfl)
  rw [lg_entry_eq]
  generalize (lg_sl ([.ref h0]) ++ List.replicate (1 - (lg_sl ([.ref h0])).length) Slot.unset).toArray = ls at hl ⊢
  have hl : lv_has ls 1 [(0, .ref h0)] := hl
  refine lv_aload_n hx hb d_O_make_0 rfl (lv_at hl 0 rfl) ?_
  refine lv_iconst (v := 1) hx hb d_O_make_1 (by decide) ?_
  have hPc := hP.sub (ws' := [(h0, .inr (7, [.int i_thrown, .int 0, .int (-1), v_buffer, .int i_size, .int 0, v_gone, v_first, v_many, v_lengths, v_authors, v_sums, v_row, v_made, .int i_madeSize, v_base, .int i_baseSize, v_text, .int i_textSize, .int i_textSteps, v_other, .int i_otherSize, v_piece, .int i_pieceSize, .int i_at, .int i_end, .int i_value]))]) [0] rfl
  have hKc := hK.sub (tys' := []) [] rfl
  have hDc := hD.sub (ws' := [(h0, .inr (7, [.int i_thrown, .int 0, .int (-1), v_buffer, .int i_size, .int 0, v_gone, v_first, v_many, v_lengths, v_authors, v_sums, v_row, v_made, .int i_madeSize, v_base, .int i_baseSize, v_text, .int i_textSize, .int i_textSteps, v_other, .int i_otherSize, v_piece, .int i_pieceSize, .int i_at, .int i_end, .int i_value]))]) [0] (by decide) rfl
  have hFc := va_free (wc := [(h0, .inr (7, [.int i_thrown, .int 0, .int (-1), v_buffer, .int i_size, .int 0, v_gone, v_first, v_many, v_lengths, v_authors, v_sums, v_row, v_made, .int i_madeSize, v_base, .int i_baseSize, v_text, .int i_textSize, .int i_textSteps, v_other, .int i_otherSize, v_piece, .int i_pieceSize, .int i_at, .int i_end, .int i_value]))]) hD hS hA [0] rfl
  refine va_calli (va_runV (As := [.int 1]) (rest := []) ⟨hx, hb, hml, hown, hw0⟩ (m_runs l dC dI s.heap.size h0 i_thrown (-1) v_buffer i_size 0 v_gone v_first v_many v_lengths v_authors v_sums v_row v_made i_madeSize v_base i_baseSize v_text i_textSize i_textSteps v_other i_otherSize v_piece i_pieceSize i_at i_end i_value 1) (cwV 1 hw0 (gd_V 176 177 178 173 179 rfl rfl rfl rfl rfl) rfl rfl rfl (by decide +kernel) ⟨by decide +kernel, by decide +kernel⟩) (prV_E hPc hKc hDc hN (va_recv hKc hPc (ci := 7) (q0 := 0) rfl rfl)) rfl rfl hl.1 rfl (lv_room (Nat.le_of_ble_eq_true rfl)) d_O_make_2 ⟨by decide +kernel, by decide +kernel⟩) hS (fun q _ h => hFc q h) hFc (fun r_1 u t H1 locs ht hvm hw hB hz1 hk1 hS => ?_)
  obtain ⟨hP1, hK1, hD1⟩ := hB
  rw [ht] at hP1
  have hK1 := va_K.moved hvm.symm hK1
  try dsimp only at hw
  obtain ⟨hP, hD⟩ := va_join (wr := []) (w1 := [(h0, .inr (7, [.int 0, .int 0, .int (-1), v_buffer, .int i_size, .int 0, v_gone, v_first, v_many, v_lengths, v_authors, v_sums, v_row, v_made, .int i_madeSize, v_base, .int i_baseSize, v_text, .int i_textSize, .int i_textSteps, v_other, .int i_otherSize, v_piece, .int i_pieceSize, .int i_at, .int i_end, .int i_value]))]) hP hD [0] [] rfl rfl (by decide) (by decide) hk1 hFc hP1 hD1
  generalize H1 = H at hP hS ⊢
  replace hP : va_P (dC, dI) vwCl [(h0, .inr (7, [.int 0, .int 0, .int (-1), v_buffer, .int i_size, .int 0, v_gone, v_first, v_many, v_lengths, v_authors, v_sums, v_row, v_made, .int i_madeSize, v_base, .int i_baseSize, v_text, .int i_textSize, .int i_textSteps, v_other, .int i_otherSize, v_piece, .int i_pieceSize, .int i_at, .int i_end, .int i_value]))] H := hP
  replace hD : va_D A [(h0, .inr (7, [.int 0, .int 0, .int (-1), v_buffer, .int i_size, .int 0, v_gone, v_first, v_many, v_lengths, v_authors, v_sums, v_row, v_made, .int i_madeSize, v_base, .int i_baseSize, v_text, .int i_textSize, .int i_textSteps, v_other, .int i_otherSize, v_piece, .int i_pieceSize, .int i_at, .int i_end, .int i_value]))] := hD
  replace hK : va_K (dC, dI) vwCl [] s := hK
  obtain rfl : r_1 = 1 := hw
  refine lv_if_eq (tgt := 17) hx hb d_O_make_5 (by decide) (fun h9 => absurd h9 (by decide +kernel)) (fun _ => ?_)
  refine lv_aload_n hx hb d_O_make_8 rfl (lv_at hl 0 rfl) ?_
  refine va_get (D := (dC, dI)) (ci := 7) (v := .int 0) (C := R_O) (T := F_O) (N := 27) hx hb hw0 in_O hown hK hP 0 rfl rfl 5 (by decide) (hw0 (.fieldLink R_O 76 "TextKeeperModel" "documents" "I") (List.mem_of_getElem? (i := 169) rfl)) (fun _ h9 => h9) rfl d_O_make_9 ?_
  refine lv_bipush (v := 8) hx hb d_O_make_12 (by decide +kernel) ?_
  refine lv_icmp_ne (tgt := 30) hx hb d_O_make_14 (by decide) (fun _ => ?_) (fun h9 => absurd h9 (by decide +kernel))
  refine lv_aload_n hx hb d_O_make_30 rfl (lv_at hl 0 rfl) ?_
  refine lv_iconst (v := 1) hx hb d_O_make_31 (by decide) ?_
  have hPc := hP.sub (ws' := [(h0, .inr (7, [.int 0, .int 0, .int (-1), v_buffer, .int i_size, .int 0, v_gone, v_first, v_many, v_lengths, v_authors, v_sums, v_row, v_made, .int i_madeSize, v_base, .int i_baseSize, v_text, .int i_textSize, .int i_textSteps, v_other, .int i_otherSize, v_piece, .int i_pieceSize, .int i_at, .int i_end, .int i_value]))]) [0] rfl
  have hKc := hK.sub (tys' := []) [] rfl
  have hDc := hD.sub (ws' := [(h0, .inr (7, [.int 0, .int 0, .int (-1), v_buffer, .int i_size, .int 0, v_gone, v_first, v_many, v_lengths, v_authors, v_sums, v_row, v_made, .int i_madeSize, v_base, .int i_baseSize, v_text, .int i_textSize, .int i_textSteps, v_other, .int i_otherSize, v_piece, .int i_pieceSize, .int i_at, .int i_end, .int i_value]))]) [0] (by decide) rfl
  have hFc := va_free (wc := [(h0, .inr (7, [.int 0, .int 0, .int (-1), v_buffer, .int i_size, .int 0, v_gone, v_first, v_many, v_lengths, v_authors, v_sums, v_row, v_made, .int i_madeSize, v_base, .int i_baseSize, v_text, .int i_textSize, .int i_textSteps, v_other, .int i_otherSize, v_piece, .int i_pieceSize, .int i_at, .int i_end, .int i_value]))]) hD hS hA [0] rfl
  refine va_calli (va_runV (As := [.int 1]) (rest := []) ⟨hx, hb, hml, hown, hw0⟩ (m_writes l dC dI H.size h0 0 0 v_buffer i_size 0 v_gone v_first v_many v_lengths v_authors v_sums v_row v_made i_madeSize v_base i_baseSize v_text i_textSize i_textSteps v_other i_otherSize v_piece i_pieceSize i_at i_end i_value 1) (cwV 1 hw0 (gd_V 180 181 182 173 183 rfl rfl rfl rfl rfl) rfl rfl rfl (by decide +kernel) ⟨by decide +kernel, by decide +kernel⟩) (prV_E hPc hKc hDc hN (va_recv hKc hPc (ci := 7) (q0 := 0) rfl rfl)) rfl rfl hl.1 rfl (lv_room (Nat.le_of_ble_eq_true rfl)) d_O_make_32 ⟨by decide +kernel, by decide +kernel⟩) hS (fun q _ h => hFc q h) hFc (fun r_3 u t H1 locs ht hvm hw hB hz1 hk1 hS => ?_)
  obtain ⟨hP1, hK1, hD1⟩ := hB
  rw [ht] at hP1
  have hK1 := va_K.moved hvm.symm hK1
  try dsimp only at hw
  obtain ⟨hP, hD⟩ := va_join (wr := []) (w1 := [(h0, .inr (7, [.int 0, .int 0, .int (-1), v_buffer, .int i_size, .int 0, v_gone, v_first, v_many, v_lengths, v_authors, v_sums, v_row, v_made, .int i_madeSize, v_base, .int i_baseSize, v_text, .int i_textSize, .int i_textSteps, v_other, .int i_otherSize, v_piece, .int i_pieceSize, .int i_at, .int i_end, .int i_value]))]) hP hD [0] [] rfl rfl (by decide) (by decide) hk1 hFc hP1 hD1
  generalize H1 = H at hP hS ⊢
  replace hP : va_P (dC, dI) vwCl [(h0, .inr (7, [.int 0, .int 0, .int (-1), v_buffer, .int i_size, .int 0, v_gone, v_first, v_many, v_lengths, v_authors, v_sums, v_row, v_made, .int i_madeSize, v_base, .int i_baseSize, v_text, .int i_textSize, .int i_textSteps, v_other, .int i_otherSize, v_piece, .int i_pieceSize, .int i_at, .int i_end, .int i_value]))] H := hP
  replace hD : va_D A [(h0, .inr (7, [.int 0, .int 0, .int (-1), v_buffer, .int i_size, .int 0, v_gone, v_first, v_many, v_lengths, v_authors, v_sums, v_row, v_made, .int i_madeSize, v_base, .int i_baseSize, v_text, .int i_textSize, .int i_textSteps, v_other, .int i_otherSize, v_piece, .int i_pieceSize, .int i_at, .int i_end, .int i_value]))] := hD
  replace hK : va_K (dC, dI) vwCl [] s := hK
  obtain rfl : r_3 = 1 := hw
  refine lv_if_ne (tgt := 40) hx hb d_O_make_35 (by decide) (fun _ => ?_) (fun h9 => absurd h9 (by decide +kernel))
  refine lv_aload_n hx hb d_O_make_40 rfl (lv_at hl 0 rfl) ?_
  refine lv_dup hx hb d_O_make_41 rfl ?_
  refine va_get (D := (dC, dI)) (ci := 7) (v := .int 0) (C := R_O) (T := F_O) (N := 27) hx hb hw0 in_O hown hK hP 0 rfl rfl 5 (by decide) (hw0 (.fieldLink R_O 76 "TextKeeperModel" "documents" "I") (List.mem_of_getElem? (i := 169) rfl)) (fun _ h9 => h9) rfl d_O_make_42 ?_
  refine lv_iconst (v := 1) hx hb d_O_make_45 (by decide) ?_
  refine lv_iadd hx hb d_O_make_46 ?_
  refine lv_topi (fun x_5 ex_5 => ?_)
  obtain rfl : x_5 = 1 := ex_5.trans (by decide +kernel)
  clear ex_5
  refine va_put (D := (dC, dI)) (ci := 7) (v := .int 1) (ty := .int) (C := R_O) (T := F_O) (N := 27) hx hb hw0 in_O ft_O tk_O nk_O hown hK hP hD hS 0 rfl rfl 5 (by decide) (hw0 (.fieldLink R_O 76 "TextKeeperModel" "documents" "I") (List.mem_of_getElem? (i := 169) rfl)) (fun _ h9 => h9) rfl (by decide +kernel) rfl rfl (Nat.le_of_ble_eq_true rfl) d_O_make_47 (fun H locs hP hD hS => ?_)
  replace hP : va_P (dC, dI) vwCl [(h0, .inr (7, [.int 0, .int 0, .int (-1), v_buffer, .int i_size, .int 1, v_gone, v_first, v_many, v_lengths, v_authors, v_sums, v_row, v_made, .int i_madeSize, v_base, .int i_baseSize, v_text, .int i_textSize, .int i_textSteps, v_other, .int i_otherSize, v_piece, .int i_pieceSize, .int i_at, .int i_end, .int i_value]))] H := hP
  replace hD : va_D A [(h0, .inr (7, [.int 0, .int 0, .int (-1), v_buffer, .int i_size, .int 1, v_gone, v_first, v_many, v_lengths, v_authors, v_sums, v_row, v_made, .int i_madeSize, v_base, .int i_baseSize, v_text, .int i_textSize, .int i_textSteps, v_other, .int i_otherSize, v_piece, .int i_pieceSize, .int i_at, .int i_end, .int i_value]))] := hD
  refine lv_aload_n hx hb d_O_make_50 rfl (lv_at hl 0 rfl) ?_
  refine va_get (D := (dC, dI)) (ci := 7) (v := .int 1) (C := R_O) (T := F_O) (N := 27) hx hb hw0 in_O hown hK hP 0 rfl rfl 5 (by decide) (hw0 (.fieldLink R_O 76 "TextKeeperModel" "documents" "I") (List.mem_of_getElem? (i := 169) rfl)) (fun _ h9 => h9) rfl d_O_make_51 ?_
  refine lv_iconst (v := 1) hx hb d_O_make_54 (by decide) ?_
  refine lv_isub hx hb d_O_make_55 ?_
  refine lv_topi (fun x_6 ex_6 => ?_)
  obtain rfl : x_6 = 0 := ex_6.trans (by decide +kernel)
  clear ex_6
  have hP9 := hP.sub (ws' := [(h0, .inr (7, [.int 0, .int 0, .int (-1), v_buffer, .int i_size, .int 1, v_gone, v_first, v_many, v_lengths, v_authors, v_sums, v_row, v_made, .int i_madeSize, v_base, .int i_baseSize, v_text, .int i_textSize, .int i_textSteps, v_other, .int i_otherSize, v_piece, .int i_pieceSize, .int i_at, .int i_end, .int i_value]))]) [0] rfl
  have hD9 := hD.sub (ws' := [(h0, .inr (7, [.int 0, .int 0, .int (-1), v_buffer, .int i_size, .int 1, v_gone, v_first, v_many, v_lengths, v_authors, v_sums, v_row, v_made, .int i_madeSize, v_base, .int i_baseSize, v_text, .int i_textSize, .int i_textSteps, v_other, .int i_otherSize, v_piece, .int i_pieceSize, .int i_at, .int i_end, .int i_value]))]) [0] (by decide) rfl
  have hK9 := hK.sub (tys' := []) [] rfl
  exact W.iret (v := 0) hx hb hr (fun t ht hW => ⟨⟨0, (), rfl, rfl, by rw [ht]; exact hP9, va_K.moved hW.alike hK9, hD9⟩, hS.F ht⟩) hS.2.2 d_O_make_56
set_option maxHeartbeats 4000000 in
set_option maxRecDepth 100000 in
theorem m_commit (l : Launch) (dC : Nat → ClassId) (dI : Nat → Nat → Nat) (sz : Nat) (h0 : Nat) (i_thrown : Int32) (i_lasts : Int32) (v_buffer : Value) (i_size : Int32) (v_gone : Value) (v_first : Value) (v_many : Value) (v_lengths : Value) (v_authors : Value) (v_sums : Value) (v_row : Value) (v_made : Value) (i_madeSize : Int32) (v_base : Value) (i_baseSize : Int32) (v_text : Value) (i_textSize : Int32) (i_textSteps : Int32) (v_other : Value) (i_otherSize : Int32) (v_piece : Value) (i_pieceSize : Int32) (i_at : Int32) (i_end : Int32) (i_value : Int32) (a1 : Int32) (a2 : Int32)  : Met l y_O_commit k_O_commit ({ frames := 1, cells := 0, slots := 0, locals := 21 } : Room) (va_Pc [.ref h0, .int a1, .int a2] (pc_E (dC, dI) [(h0, .inr (7, [.int i_thrown, .int 0, .int i_lasts, v_buffer, .int i_size, .int 0, v_gone, v_first, v_many, v_lengths, v_authors, v_sums, v_row, v_made, .int i_madeSize, v_base, .int i_baseSize, v_text, .int i_textSize, .int i_textSteps, v_other, .int i_otherSize, v_piece, .int i_pieceSize, .int i_at, .int i_end, .int i_value]))] [] sz)) (va_Qi (fun (r : Int32) (_ : Unit) => r = (-1)) (fun (_ : Unit) t => at_E (dC, dI) (va_A [(h0, .inr (7, [.int i_thrown, .int 0, .int i_lasts, v_buffer, .int i_size, .int 0, v_gone, v_first, v_many, v_lengths, v_authors, v_sums, v_row, v_made, .int i_madeSize, v_base, .int i_baseSize, v_text, .int i_textSize, .int i_textSteps, v_other, .int i_otherSize, v_piece, .int i_pieceSize, .int i_at, .int i_end, .int i_value]))] sz) [(h0, .inr (7, [.int 0, .int 0, .int i_lasts, v_buffer, .int i_size, .int 0, v_gone, v_first, v_many, v_lengths, v_authors, v_sums, v_row, v_made, .int i_madeSize, v_base, .int i_baseSize, v_text, .int i_textSize, .int i_textSteps, v_other, .int i_otherSize, v_piece, .int i_pieceSize, .int i_at, .int i_end, .int i_value]))] [] t) (va_A [(h0, .inr (7, [.int i_thrown, .int 0, .int i_lasts, v_buffer, .int i_size, .int 0, v_gone, v_first, v_many, v_lengths, v_authors, v_sums, v_row, v_made, .int i_madeSize, v_base, .int i_baseSize, v_text, .int i_textSize, .int i_textSteps, v_other, .int i_otherSize, v_piece, .int i_pieceSize, .int i_at, .int i_end, .int i_value]))] sz)) 0 0 (va_A [(h0, .inr (7, [.int i_thrown, .int 0, .int i_lasts, v_buffer, .int i_size, .int 0, v_gone, v_first, v_many, v_lengths, v_authors, v_sums, v_row, v_made, .int i_madeSize, v_base, .int i_baseSize, v_text, .int i_textSize, .int i_textSteps, v_other, .int i_otherSize, v_piece, .int i_pieceSize, .int i_at, .int i_end, .int i_value]))] sz) := by
  refine Met.ofW (cc := prog_9_method_27_code) (maxL := 7) (ret := (some .int)) (by decide) rfl ?_
  intro p e s m args below meth c s₁ B hml hv
  obtain ⟨rfl, hsz, hP, hK, hD0, hN⟩ := hv
  have hx := B.exec
  have hb := B.bytes
  have hr := B.returns
  have hts := atoms_spec (ws := k_O_commit) B.pre
  have hw0 : ∀ w ∈ w0, w.before _ s = true := fun w h => hts w (List.mem_cons_of_mem _ h)
  have hown : s.vm.findClass R_O = some m.cls := findClass_of_methodNamed B.named
  have hlocks := B.notSynchronized
  subst hsz
  have hD := hD0.self (sz := s.heap.size)
  generalize hAe : va_A [(h0, .inr (7, [.int i_thrown, .int 0, .int i_lasts, v_buffer, .int i_size, .int 0, v_gone, v_first, v_many, v_lengths, v_authors, v_sums, v_row, v_made, .int i_madeSize, v_base, .int i_baseSize, v_text, .int i_textSize, .int i_textSteps, v_other, .int i_otherSize, v_piece, .int i_pieceSize, .int i_at, .int i_end, .int i_value]))] s.heap.size = A at hD ⊢
  have hA : ∀ q : Nat, s.heap.size ≤ q → A q := fun q h => by rw [← hAe]; exact Or.inr h
  have hS : va_S A s.heap s.heap [] := va_S.rf
  have hP : va_P (dC, dI) vwCl [(h0, .inr (7, [.int i_thrown, .int 0, .int i_lasts, v_buffer, .int i_size, .int 0, v_gone, v_first, v_many, v_lengths, v_authors, v_sums, v_row, v_made, .int i_madeSize, v_base, .int i_baseSize, v_text, .int i_textSize, .int i_textSteps, v_other, .int i_otherSize, v_piece, .int i_pieceSize, .int i_at, .int i_end, .int i_value]))] s.heap := hP
  have hl := lv_entry ([.ref h0, .int a1, .int a2]) (n := 7) (Nat.le_of_ble_eq_true rfl)
  rw [lg_entry_eq]
  generalize (lg_sl ([.ref h0, .int a1, .int a2]) ++ List.replicate (7 - (lg_sl ([.ref h0, .int a1, .int a2])).length) Slot.unset).toArray = ls at hl ⊢
  have hl : lv_has ls 7 [(0, .ref h0), (1, .int a1), (2, .int a2)] := hl
  refine lv_aload_n hx hb d_O_commit_0 rfl (lv_at hl 0 rfl) ?_
  refine lv_iconst (v := 1) hx hb d_O_commit_1 (by decide) ?_
  have hPc := hP.sub (ws' := [(h0, .inr (7, [.int i_thrown, .int 0, .int i_lasts, v_buffer, .int i_size, .int 0, v_gone, v_first, v_many, v_lengths, v_authors, v_sums, v_row, v_made, .int i_madeSize, v_base, .int i_baseSize, v_text, .int i_textSize, .int i_textSteps, v_other, .int i_otherSize, v_piece, .int i_pieceSize, .int i_at, .int i_end, .int i_value]))]) [0] rfl
  have hKc := hK.sub (tys' := []) [] rfl
  have hDc := hD.sub (ws' := [(h0, .inr (7, [.int i_thrown, .int 0, .int i_lasts, v_buffer, .int i_size, .int 0, v_gone, v_first, v_many, v_lengths, v_authors, v_sums, v_row, v_made, .int i_madeSize, v_base, .int i_baseSize, v_text, .int i_textSize, .int i_textSteps, v_other, .int i_otherSize, v_piece, .int i_pieceSize, .int i_at, .int i_end, .int i_value]))]) [0] (by decide) rfl
  have hFc := va_free (wc := [(h0, .inr (7, [.int i_thrown, .int 0, .int i_lasts, v_buffer, .int i_size, .int 0, v_gone, v_first, v_many, v_lengths, v_authors, v_sums, v_row, v_made, .int i_madeSize, v_base, .int i_baseSize, v_text, .int i_textSize, .int i_textSteps, v_other, .int i_otherSize, v_piece, .int i_pieceSize, .int i_at, .int i_end, .int i_value]))]) hD hS hA [0] rfl
  refine va_calli (va_runV (As := [.int 1]) (rest := []) ⟨hx, hb, hml, hown, hw0⟩ (m_runs l dC dI s.heap.size h0 i_thrown i_lasts v_buffer i_size 0 v_gone v_first v_many v_lengths v_authors v_sums v_row v_made i_madeSize v_base i_baseSize v_text i_textSize i_textSteps v_other i_otherSize v_piece i_pieceSize i_at i_end i_value 1) (cwV 1 hw0 (gd_V 176 177 178 173 179 rfl rfl rfl rfl rfl) rfl rfl rfl (by decide +kernel) ⟨by decide +kernel, by decide +kernel⟩) (prV_E hPc hKc hDc hN (va_recv hKc hPc (ci := 7) (q0 := 0) rfl rfl)) rfl rfl hl.1 rfl (lv_room (Nat.le_of_ble_eq_true rfl)) d_O_commit_2 ⟨by decide +kernel, by decide +kernel⟩) hS (fun q _ h => hFc q h) hFc (fun r_1 u t H1 locs ht hvm hw hB hz1 hk1 hS => ?_)
  obtain ⟨hP1, hK1, hD1⟩ := hB
  rw [ht] at hP1
  have hK1 := va_K.moved hvm.symm hK1
  try dsimp only at hw
  obtain ⟨hP, hD⟩ := va_join (wr := []) (w1 := [(h0, .inr (7, [.int 0, .int 0, .int i_lasts, v_buffer, .int i_size, .int 0, v_gone, v_first, v_many, v_lengths, v_authors, v_sums, v_row, v_made, .int i_madeSize, v_base, .int i_baseSize, v_text, .int i_textSize, .int i_textSteps, v_other, .int i_otherSize, v_piece, .int i_pieceSize, .int i_at, .int i_end, .int i_value]))]) hP hD [0] [] rfl rfl (by decide) (by decide) hk1 hFc hP1 hD1
  generalize H1 = H at hP hS ⊢
  replace hP : va_P (dC, dI) vwCl [(h0, .inr (7, [.int 0, .int 0, .int i_lasts, v_buffer, .int i_size, .int 0, v_gone, v_first, v_many, v_lengths, v_authors, v_sums, v_row, v_made, .int i_madeSize, v_base, .int i_baseSize, v_text, .int i_textSize, .int i_textSteps, v_other, .int i_otherSize, v_piece, .int i_pieceSize, .int i_at, .int i_end, .int i_value]))] H := hP
  replace hD : va_D A [(h0, .inr (7, [.int 0, .int 0, .int i_lasts, v_buffer, .int i_size, .int 0, v_gone, v_first, v_many, v_lengths, v_authors, v_sums, v_row, v_made, .int i_madeSize, v_base, .int i_baseSize, v_text, .int i_textSize, .int i_textSteps, v_other, .int i_otherSize, v_piece, .int i_pieceSize, .int i_at, .int i_end, .int i_value]))] := hD
  replace hK : va_K (dC, dI) vwCl [] s := hK
  obtain rfl : r_1 = 1 := hw
  refine lv_if_eq (tgt := 27) hx hb d_O_commit_5 (by decide) (fun h9 => absurd h9 (by decide +kernel)) (fun _ => ?_)
  refine lv_aload_n hx hb d_O_commit_8 rfl (lv_at hl 0 rfl) ?_
  refine lv_iload_n hx hb d_O_commit_9 rfl (lv_at hl 1 rfl) ?_
  have hPc := hP.sub (ws' := [(h0, .inr (7, [.int 0, .int 0, .int i_lasts, v_buffer, .int i_size, .int 0, v_gone, v_first, v_many, v_lengths, v_authors, v_sums, v_row, v_made, .int i_madeSize, v_base, .int i_baseSize, v_text, .int i_textSize, .int i_textSteps, v_other, .int i_otherSize, v_piece, .int i_pieceSize, .int i_at, .int i_end, .int i_value]))]) [0] rfl
  have hKc := hK.sub (tys' := []) [] rfl
  refine ps_i (va_runV (As := [.int a1]) (rest := []) ⟨hx, hb, hml, hown, hw0⟩ (m_isDocument l dC dI h0 0 0 i_lasts v_buffer i_size v_gone v_first v_many v_lengths v_authors v_sums v_row v_made i_madeSize v_base i_baseSize v_text i_textSize i_textSteps v_other i_otherSize v_piece i_pieceSize i_at i_end i_value a1) (cwV 1 hw0 (gd_V 170 171 172 173 174 rfl rfl rfl rfl rfl) rfl rfl rfl (by decide +kernel) ⟨by decide +kernel, by decide +kernel⟩) (prV_R hPc hKc hN (va_recv hKc hPc (ci := 7) (q0 := 0) rfl rfl)) rfl rfl hl.1 rfl (lv_room (Nat.le_of_ble_eq_true rfl)) d_O_commit_10 ⟨by decide +kernel, by decide +kernel⟩) (fun r_3 hr_3 => ?_)
  obtain rfl : r_3 = 0 := hr_3
  refine lv_if_eq (tgt := 27) hx hb d_O_commit_13 (by decide) (fun _ => ?_) (fun h9 => absurd h9 (by decide +kernel))
  refine lv_aload_n hx hb d_O_commit_27 rfl (lv_at hl 0 rfl) ?_
  refine va_get (D := (dC, dI)) (ci := 7) (v := .int 0) (C := R_O) (T := F_O) (N := 27) hx hb hw0 in_O hown hK hP 0 rfl rfl 0 (by decide) (hw0 (.fieldLink R_O 62 "TextKeeperModel" "thrown" "I") (List.mem_of_getElem? (i := 168) rfl)) (fun _ h9 => h9) rfl d_O_commit_28 ?_
  refine lv_if_ne (tgt := 38) hx hb d_O_commit_31 (by decide) (fun h9 => absurd h9 (by decide +kernel)) (fun _ => ?_)
  refine lv_iconst (v := (-1)) hx hb d_O_commit_34 (by decide) ?_
  refine lv_goto (tgt := 39) hx hb d_O_commit_35 (by decide) ?_
  have hP9 := hP.sub (ws' := [(h0, .inr (7, [.int 0, .int 0, .int i_lasts, v_buffer, .int i_size, .int 0, v_gone, v_first, v_many, v_lengths, v_authors, v_sums, v_row, v_made, .int i_madeSize, v_base, .int i_baseSize, v_text, .int i_textSize, .int i_textSteps, v_other, .int i_otherSize, v_piece, .int i_pieceSize, .int i_at, .int i_end, .int i_value]))]) [0] rfl
  have hD9 := hD.sub (ws' := [(h0, .inr (7, [.int 0, .int 0, .int i_lasts, v_buffer, .int i_size, .int 0, v_gone, v_first, v_many, v_lengths, v_authors, v_sums, v_row, v_made, .int i_madeSize, v_base, .int i_baseSize, v_text, .int i_textSize, .int i_textSteps, v_other, .int i_otherSize, v_piece, .int i_pieceSize, .int i_at, .int i_end, .int i_value]))]) [0] (by decide) rfl
  have hK9 := hK.sub (tys' := []) [] rfl
  exact W.iret (v := (-1)) hx hb hr (fun t ht hW => ⟨⟨(-1), (), rfl, rfl, by rw [ht]; exact hP9, va_K.moved hW.alike hK9, hD9⟩, hS.F ht⟩) hS.2.2 d_O_commit_39
set_option maxHeartbeats 4000000 in
set_option maxRecDepth 100000 in
theorem m_fetch (l : Launch) (dC : Nat → ClassId) (dI : Nat → Nat → Nat) (sz : Nat) (h0 : Nat) (i_thrown : Int32) (i_lasts : Int32) (v_buffer : Value) (i_size : Int32) (v_gone : Value) (v_first : Value) (v_many : Value) (v_lengths : Value) (v_authors : Value) (v_sums : Value) (v_row : Value) (v_made : Value) (i_madeSize : Int32) (v_base : Value) (i_baseSize : Int32) (v_text : Value) (i_textSize : Int32) (i_textSteps : Int32) (v_other : Value) (i_otherSize : Int32) (v_piece : Value) (i_pieceSize : Int32) (i_at : Int32) (i_end : Int32) (i_value : Int32) (a1 : Int32) (a2 : Int32)  : Met l y_O_fetch k_O_fetch ({ frames := 2, cells := 0, slots := 0, locals := 43 } : Room) (va_Pc [.ref h0, .int a1, .int a2] (pc_E (dC, dI) [(h0, .inr (7, [.int i_thrown, .int 0, .int i_lasts, v_buffer, .int i_size, .int 0, v_gone, v_first, v_many, v_lengths, v_authors, v_sums, v_row, v_made, .int i_madeSize, v_base, .int i_baseSize, v_text, .int i_textSize, .int i_textSteps, v_other, .int i_otherSize, v_piece, .int i_pieceSize, .int i_at, .int i_end, .int i_value]))] [] sz)) (va_Qi (fun (r : Int32) (_ : Unit) => r = (-1)) (fun (_ : Unit) t => at_E (dC, dI) (va_A [(h0, .inr (7, [.int i_thrown, .int 0, .int i_lasts, v_buffer, .int i_size, .int 0, v_gone, v_first, v_many, v_lengths, v_authors, v_sums, v_row, v_made, .int i_madeSize, v_base, .int i_baseSize, v_text, .int i_textSize, .int i_textSteps, v_other, .int i_otherSize, v_piece, .int i_pieceSize, .int i_at, .int i_end, .int i_value]))] sz) [(h0, .inr (7, [.int 0, .int 0, .int i_lasts, v_buffer, .int i_size, .int 0, v_gone, v_first, v_many, v_lengths, v_authors, v_sums, v_row, v_made, .int i_madeSize, v_base, .int i_baseSize, v_text, .int i_textSize, .int i_textSteps, v_other, .int i_otherSize, v_piece, .int i_pieceSize, .int i_at, .int i_end, .int i_value]))] [] t) (va_A [(h0, .inr (7, [.int i_thrown, .int 0, .int i_lasts, v_buffer, .int i_size, .int 0, v_gone, v_first, v_many, v_lengths, v_authors, v_sums, v_row, v_made, .int i_madeSize, v_base, .int i_baseSize, v_text, .int i_textSize, .int i_textSteps, v_other, .int i_otherSize, v_piece, .int i_pieceSize, .int i_at, .int i_end, .int i_value]))] sz)) 0 0 (va_A [(h0, .inr (7, [.int i_thrown, .int 0, .int i_lasts, v_buffer, .int i_size, .int 0, v_gone, v_first, v_many, v_lengths, v_authors, v_sums, v_row, v_made, .int i_madeSize, v_base, .int i_baseSize, v_text, .int i_textSize, .int i_textSteps, v_other, .int i_otherSize, v_piece, .int i_pieceSize, .int i_at, .int i_end, .int i_value]))] sz) := by
  refine Met.ofW (cc := prog_9_method_28_code) (maxL := 4) (ret := (some .int)) (by decide) rfl ?_
  intro p e s m args below meth c s₁ B hml hv
  obtain ⟨rfl, hsz, hP, hK, hD0, hN⟩ := hv
  have hx := B.exec
  have hb := B.bytes
  have hr := B.returns
  have hts := atoms_spec (ws := k_O_fetch) B.pre
  have hw0 : ∀ w ∈ w0, w.before _ s = true := fun w h => hts w (List.mem_cons_of_mem _ h)
  have hown : s.vm.findClass R_O = some m.cls := findClass_of_methodNamed B.named
  have hlocks := B.notSynchronized
  subst hsz
  have hD := hD0.self (sz := s.heap.size)
  generalize hAe : va_A [(h0, .inr (7, [.int i_thrown, .int 0, .int i_lasts, v_buffer, .int i_size, .int 0, v_gone, v_first, v_many, v_lengths, v_authors, v_sums, v_row, v_made, .int i_madeSize, v_base, .int i_baseSize, v_text, .int i_textSize, .int i_textSteps, v_other, .int i_otherSize, v_piece, .int i_pieceSize, .int i_at, .int i_end, .int i_value]))] s.heap.size = A at hD ⊢
  have hA : ∀ q : Nat, s.heap.size ≤ q → A q := fun q h => by rw [← hAe]; exact Or.inr h
  have hS : va_S A s.heap s.heap [] := va_S.rf
  have hP : va_P (dC, dI) vwCl [(h0, .inr (7, [.int i_thrown, .int 0, .int i_lasts, v_buffer, .int i_size, .int 0, v_gone, v_first, v_many, v_lengths, v_authors, v_sums, v_row, v_made, .int i_madeSize, v_base, .int i_baseSize, v_text, .int i_textSize, .int i_textSteps, v_other, .int i_otherSize, v_piece, .int i_pieceSize, .int i_at, .int i_end, .int i_value]))] s.heap := hP
  have hl := lv_entry ([.ref h0, .int a1, .int a2]) (n := 4) (Nat.le_of_ble_eq_true rfl)
  rw [lg_entry_eq]
  generalize (lg_sl ([.ref h0, .int a1, .int a2]) ++ List.replicate (4 - (lg_sl ([.ref h0, .int a1, .int a2])).length) Slot.unset).toArray = ls at hl ⊢
  have hl : lv_has ls 4 [(0, .ref h0), (1, .int a1), (2, .int a2)] := hl
  refine lv_aload_n hx hb d_O_fetch_0 rfl (lv_at hl 0 rfl) ?_
  refine lv_iconst (v := 1) hx hb d_O_fetch_1 (by decide) ?_
  have hPc := hP.sub (ws' := [(h0, .inr (7, [.int i_thrown, .int 0, .int i_lasts, v_buffer, .int i_size, .int 0, v_gone, v_first, v_many, v_lengths, v_authors, v_sums, v_row, v_made, .int i_madeSize, v_base, .int i_baseSize, v_text, .int i_textSize, .int i_textSteps, v_other, .int i_otherSize, v_piece, .int i_pieceSize, .int i_at, .int i_end, .int i_value]))]) [0] rfl
  have hKc := hK.sub (tys' := []) [] rfl
  have hDc := hD.sub (ws' := [(h0, .inr (7, [.int i_thrown, .int 0, .int i_lasts, v_buffer, .int i_size, .int 0, v_gone, v_first, v_many, v_lengths, v_authors, v_sums, v_row, v_made, .int i_madeSize, v_base, .int i_baseSize, v_text, .int i_textSize, .int i_textSteps, v_other, .int i_otherSize, v_piece, .int i_pieceSize, .int i_at, .int i_end, .int i_value]))]) [0] (by decide) rfl
  have hFc := va_free (wc := [(h0, .inr (7, [.int i_thrown, .int 0, .int i_lasts, v_buffer, .int i_size, .int 0, v_gone, v_first, v_many, v_lengths, v_authors, v_sums, v_row, v_made, .int i_madeSize, v_base, .int i_baseSize, v_text, .int i_textSize, .int i_textSteps, v_other, .int i_otherSize, v_piece, .int i_pieceSize, .int i_at, .int i_end, .int i_value]))]) hD hS hA [0] rfl
  refine va_calli (va_runV (As := [.int 1]) (rest := []) ⟨hx, hb, hml, hown, hw0⟩ (m_runs l dC dI s.heap.size h0 i_thrown i_lasts v_buffer i_size 0 v_gone v_first v_many v_lengths v_authors v_sums v_row v_made i_madeSize v_base i_baseSize v_text i_textSize i_textSteps v_other i_otherSize v_piece i_pieceSize i_at i_end i_value 1) (cwV 1 hw0 (gd_V 176 177 178 173 179 rfl rfl rfl rfl rfl) rfl rfl rfl (by decide +kernel) ⟨by decide +kernel, by decide +kernel⟩) (prV_E hPc hKc hDc hN (va_recv hKc hPc (ci := 7) (q0 := 0) rfl rfl)) rfl rfl hl.1 rfl (lv_room (Nat.le_of_ble_eq_true rfl)) d_O_fetch_2 ⟨by decide +kernel, by decide +kernel⟩) hS (fun q _ h => hFc q h) hFc (fun r_1 u t H1 locs ht hvm hw hB hz1 hk1 hS => ?_)
  obtain ⟨hP1, hK1, hD1⟩ := hB
  rw [ht] at hP1
  have hK1 := va_K.moved hvm.symm hK1
  try dsimp only at hw
  obtain ⟨hP, hD⟩ := va_join (wr := []) (w1 := [(h0, .inr (7, [.int 0, .int 0, .int i_lasts, v_buffer, .int i_size, .int 0, v_gone, v_first, v_many, v_lengths, v_authors, v_sums, v_row, v_made, .int i_madeSize, v_base, .int i_baseSize, v_text, .int i_textSize, .int i_textSteps, v_other, .int i_otherSize, v_piece, .int i_pieceSize, .int i_at, .int i_end, .int i_value]))]) hP hD [0] [] rfl rfl (by decide) (by decide) hk1 hFc hP1 hD1
  generalize H1 = H at hP hS ⊢
  replace hP : va_P (dC, dI) vwCl [(h0, .inr (7, [.int 0, .int 0, .int i_lasts, v_buffer, .int i_size, .int 0, v_gone, v_first, v_many, v_lengths, v_authors, v_sums, v_row, v_made, .int i_madeSize, v_base, .int i_baseSize, v_text, .int i_textSize, .int i_textSteps, v_other, .int i_otherSize, v_piece, .int i_pieceSize, .int i_at, .int i_end, .int i_value]))] H := hP
  replace hD : va_D A [(h0, .inr (7, [.int 0, .int 0, .int i_lasts, v_buffer, .int i_size, .int 0, v_gone, v_first, v_many, v_lengths, v_authors, v_sums, v_row, v_made, .int i_madeSize, v_base, .int i_baseSize, v_text, .int i_textSize, .int i_textSteps, v_other, .int i_otherSize, v_piece, .int i_pieceSize, .int i_at, .int i_end, .int i_value]))] := hD
  replace hK : va_K (dC, dI) vwCl [] s := hK
  obtain rfl : r_1 = 1 := hw
  refine lv_if_eq (tgt := 17) hx hb d_O_fetch_5 (by decide) (fun h9 => absurd h9 (by decide +kernel)) (fun _ => ?_)
  refine lv_aload_n hx hb d_O_fetch_8 rfl (lv_at hl 0 rfl) ?_
  refine lv_iload_n hx hb d_O_fetch_9 rfl (lv_at hl 1 rfl) ?_
  refine lv_iload_n hx hb d_O_fetch_10 rfl (lv_at hl 2 rfl) ?_
  have hPc := hP.sub (ws' := [(h0, .inr (7, [.int 0, .int 0, .int i_lasts, v_buffer, .int i_size, .int 0, v_gone, v_first, v_many, v_lengths, v_authors, v_sums, v_row, v_made, .int i_madeSize, v_base, .int i_baseSize, v_text, .int i_textSize, .int i_textSteps, v_other, .int i_otherSize, v_piece, .int i_pieceSize, .int i_at, .int i_end, .int i_value]))]) [0] rfl
  have hKc := hK.sub (tys' := []) [] rfl
  refine ps_i (va_runV (As := [.int a1, .int a2]) (rest := []) ⟨hx, hb, hml, hown, hw0⟩ (m_isAsked l dC dI h0 0 0 i_lasts v_buffer i_size v_gone v_first v_many v_lengths v_authors v_sums v_row v_made i_madeSize v_base i_baseSize v_text i_textSize i_textSteps v_other i_otherSize v_piece i_pieceSize i_at i_end i_value a1 a2) (cwV 2 hw0 (gd_V 184 185 186 173 187 rfl rfl rfl rfl rfl) rfl rfl rfl (by decide +kernel) ⟨by decide +kernel, by decide +kernel⟩) (prV_R hPc hKc hN (va_recv hKc hPc (ci := 7) (q0 := 0) rfl rfl)) rfl rfl hl.1 rfl (lv_room (Nat.le_of_ble_eq_true rfl)) d_O_fetch_11 ⟨by decide +kernel, by decide +kernel⟩) (fun r_3 hr_3 => ?_)
  obtain rfl : r_3 = 0 := hr_3
  refine lv_if_ne (tgt := 30) hx hb d_O_fetch_14 (by decide) (fun h9 => absurd h9 (by decide +kernel)) (fun _ => ?_)
  refine lv_aload_n hx hb d_O_fetch_17 rfl (lv_at hl 0 rfl) ?_
  refine va_get (D := (dC, dI)) (ci := 7) (v := .int 0) (C := R_O) (T := F_O) (N := 27) hx hb hw0 in_O hown hK hP 0 rfl rfl 0 (by decide) (hw0 (.fieldLink R_O 62 "TextKeeperModel" "thrown" "I") (List.mem_of_getElem? (i := 168) rfl)) (fun _ h9 => h9) rfl d_O_fetch_18 ?_
  refine lv_if_ne (tgt := 28) hx hb d_O_fetch_21 (by decide) (fun h9 => absurd h9 (by decide +kernel)) (fun _ => ?_)
  refine lv_iconst (v := (-1)) hx hb d_O_fetch_24 (by decide) ?_
  refine lv_goto (tgt := 29) hx hb d_O_fetch_25 (by decide) ?_
  have hP9 := hP.sub (ws' := [(h0, .inr (7, [.int 0, .int 0, .int i_lasts, v_buffer, .int i_size, .int 0, v_gone, v_first, v_many, v_lengths, v_authors, v_sums, v_row, v_made, .int i_madeSize, v_base, .int i_baseSize, v_text, .int i_textSize, .int i_textSteps, v_other, .int i_otherSize, v_piece, .int i_pieceSize, .int i_at, .int i_end, .int i_value]))]) [0] rfl
  have hD9 := hD.sub (ws' := [(h0, .inr (7, [.int 0, .int 0, .int i_lasts, v_buffer, .int i_size, .int 0, v_gone, v_first, v_many, v_lengths, v_authors, v_sums, v_row, v_made, .int i_madeSize, v_base, .int i_baseSize, v_text, .int i_textSize, .int i_textSteps, v_other, .int i_otherSize, v_piece, .int i_pieceSize, .int i_at, .int i_end, .int i_value]))]) [0] (by decide) rfl
  have hK9 := hK.sub (tys' := []) [] rfl
  exact W.iret (v := (-1)) hx hb hr (fun t ht hW => ⟨⟨(-1), (), rfl, rfl, by rw [ht]; exact hP9, va_K.moved hW.alike hK9, hD9⟩, hS.F ht⟩) hS.2.2 d_O_fetch_29
set_option maxHeartbeats 4000000 in
set_option maxRecDepth 100000 in
theorem m_trim (l : Launch) (dC : Nat → ClassId) (dI : Nat → Nat → Nat) (sz : Nat) (h0 : Nat) (i_thrown : Int32) (i_lasts : Int32) (v_buffer : Value) (i_size : Int32) (v_gone : Value) (v_first : Value) (v_many : Value) (v_lengths : Value) (v_authors : Value) (v_sums : Value) (v_row : Value) (v_made : Value) (i_madeSize : Int32) (v_base : Value) (i_baseSize : Int32) (v_text : Value) (i_textSize : Int32) (i_textSteps : Int32) (v_other : Value) (i_otherSize : Int32) (v_piece : Value) (i_pieceSize : Int32) (i_at : Int32) (i_end : Int32) (i_value : Int32) (a1 : Int32) (a2 : Int32)  : Met l y_O_trim k_O_trim ({ frames := 2, cells := 0, slots := 0, locals := 43 } : Room) (va_Pc [.ref h0, .int a1, .int a2] (pc_E (dC, dI) [(h0, .inr (7, [.int i_thrown, .int 0, .int i_lasts, v_buffer, .int i_size, .int 0, v_gone, v_first, v_many, v_lengths, v_authors, v_sums, v_row, v_made, .int i_madeSize, v_base, .int i_baseSize, v_text, .int i_textSize, .int i_textSteps, v_other, .int i_otherSize, v_piece, .int i_pieceSize, .int i_at, .int i_end, .int i_value]))] [] sz)) (va_Qi (fun (r : Int32) (_ : Unit) => r = 0) (fun (_ : Unit) t => at_E (dC, dI) (va_A [(h0, .inr (7, [.int i_thrown, .int 0, .int i_lasts, v_buffer, .int i_size, .int 0, v_gone, v_first, v_many, v_lengths, v_authors, v_sums, v_row, v_made, .int i_madeSize, v_base, .int i_baseSize, v_text, .int i_textSize, .int i_textSteps, v_other, .int i_otherSize, v_piece, .int i_pieceSize, .int i_at, .int i_end, .int i_value]))] sz) [(h0, .inr (7, [.int 0, .int 0, .int i_lasts, v_buffer, .int i_size, .int 0, v_gone, v_first, v_many, v_lengths, v_authors, v_sums, v_row, v_made, .int i_madeSize, v_base, .int i_baseSize, v_text, .int i_textSize, .int i_textSteps, v_other, .int i_otherSize, v_piece, .int i_pieceSize, .int i_at, .int i_end, .int i_value]))] [] t) (va_A [(h0, .inr (7, [.int i_thrown, .int 0, .int i_lasts, v_buffer, .int i_size, .int 0, v_gone, v_first, v_many, v_lengths, v_authors, v_sums, v_row, v_made, .int i_madeSize, v_base, .int i_baseSize, v_text, .int i_textSize, .int i_textSteps, v_other, .int i_otherSize, v_piece, .int i_pieceSize, .int i_at, .int i_end, .int i_value]))] sz)) 0 0 (va_A [(h0, .inr (7, [.int i_thrown, .int 0, .int i_lasts, v_buffer, .int i_size, .int 0, v_gone, v_first, v_many, v_lengths, v_authors, v_sums, v_row, v_made, .int i_madeSize, v_base, .int i_baseSize, v_text, .int i_textSize, .int i_textSteps, v_other, .int i_otherSize, v_piece, .int i_pieceSize, .int i_at, .int i_end, .int i_value]))] sz) := by
  refine Met.ofW (cc := prog_9_method_31_code) (maxL := 3) (ret := (some .boolean)) (by decide) rfl ?_
  intro p e s m args below meth c s₁ B hml hv
  obtain ⟨rfl, hsz, hP, hK, hD0, hN⟩ := hv
  have hx := B.exec
  have hb := B.bytes
  have hr := B.returns
  have hts := atoms_spec (ws := k_O_trim) B.pre
  have hw0 : ∀ w ∈ w0, w.before _ s = true := fun w h => hts w (List.mem_cons_of_mem _ h)
  have hown : s.vm.findClass R_O = some m.cls := findClass_of_methodNamed B.named
  have hlocks := B.notSynchronized
  subst hsz
  have hD := hD0.self (sz := s.heap.size)
  generalize hAe : va_A [(h0, .inr (7, [.int i_thrown, .int 0, .int i_lasts, v_buffer, .int i_size, .int 0, v_gone, v_first, v_many, v_lengths, v_authors, v_sums, v_row, v_made, .int i_madeSize, v_base, .int i_baseSize, v_text, .int i_textSize, .int i_textSteps, v_other, .int i_otherSize, v_piece, .int i_pieceSize, .int i_at, .int i_end, .int i_value]))] s.heap.size = A at hD ⊢
  have hA : ∀ q : Nat, s.heap.size ≤ q → A q := fun q h => by rw [← hAe]; exact Or.inr h
  have hS : va_S A s.heap s.heap [] := va_S.rf
  have hP : va_P (dC, dI) vwCl [(h0, .inr (7, [.int i_thrown, .int 0, .int i_lasts, v_buffer, .int i_size, .int 0, v_gone, v_first, v_many, v_lengths, v_authors, v_sums, v_row, v_made, .int i_madeSize, v_base, .int i_baseSize, v_text, .int i_textSize, .int i_textSteps, v_other, .int i_otherSize, v_piece, .int i_pieceSize, .int i_at, .int i_end, .int i_value]))] s.heap := hP
  have hl := lv_entry ([.ref h0, .int a1, .int a2]) (n := 3) (Nat.le_of_ble_eq_true rfl)
  rw [lg_entry_eq]
  generalize (lg_sl ([.ref h0, .int a1, .int a2]) ++ List.replicate (3 - (lg_sl ([.ref h0, .int a1, .int a2])).length) Slot.unset).toArray = ls at hl ⊢
  have hl : lv_has ls 3 [(0, .ref h0), (1, .int a1), (2, .int a2)] := hl
  refine lv_aload_n hx hb d_O_trim_0 rfl (lv_at hl 0 rfl) ?_
  refine lv_iconst (v := 1) hx hb d_O_trim_1 (by decide) ?_
  have hPc := hP.sub (ws' := [(h0, .inr (7, [.int i_thrown, .int 0, .int i_lasts, v_buffer, .int i_size, .int 0, v_gone, v_first, v_many, v_lengths, v_authors, v_sums, v_row, v_made, .int i_madeSize, v_base, .int i_baseSize, v_text, .int i_textSize, .int i_textSteps, v_other, .int i_otherSize, v_piece, .int i_pieceSize, .int i_at, .int i_end, .int i_value]))]) [0] rfl
  have hKc := hK.sub (tys' := []) [] rfl
  have hDc := hD.sub (ws' := [(h0, .inr (7, [.int i_thrown, .int 0, .int i_lasts, v_buffer, .int i_size, .int 0, v_gone, v_first, v_many, v_lengths, v_authors, v_sums, v_row, v_made, .int i_madeSize, v_base, .int i_baseSize, v_text, .int i_textSize, .int i_textSteps, v_other, .int i_otherSize, v_piece, .int i_pieceSize, .int i_at, .int i_end, .int i_value]))]) [0] (by decide) rfl
  have hFc := va_free (wc := [(h0, .inr (7, [.int i_thrown, .int 0, .int i_lasts, v_buffer, .int i_size, .int 0, v_gone, v_first, v_many, v_lengths, v_authors, v_sums, v_row, v_made, .int i_madeSize, v_base, .int i_baseSize, v_text, .int i_textSize, .int i_textSteps, v_other, .int i_otherSize, v_piece, .int i_pieceSize, .int i_at, .int i_end, .int i_value]))]) hD hS hA [0] rfl
  refine va_calli (va_runV (As := [.int 1]) (rest := []) ⟨hx, hb, hml, hown, hw0⟩ (m_runs l dC dI s.heap.size h0 i_thrown i_lasts v_buffer i_size 0 v_gone v_first v_many v_lengths v_authors v_sums v_row v_made i_madeSize v_base i_baseSize v_text i_textSize i_textSteps v_other i_otherSize v_piece i_pieceSize i_at i_end i_value 1) (cwV 1 hw0 (gd_V 176 177 178 173 179 rfl rfl rfl rfl rfl) rfl rfl rfl (by decide +kernel) ⟨by decide +kernel, by decide +kernel⟩) (prV_E hPc hKc hDc hN (va_recv hKc hPc (ci := 7) (q0 := 0) rfl rfl)) rfl rfl hl.1 rfl (lv_room (Nat.le_of_ble_eq_true rfl)) d_O_trim_2 ⟨by decide +kernel, by decide +kernel⟩) hS (fun q _ h => hFc q h) hFc (fun r_1 u t H1 locs ht hvm hw hB hz1 hk1 hS => ?_)
  obtain ⟨hP1, hK1, hD1⟩ := hB
  rw [ht] at hP1
  have hK1 := va_K.moved hvm.symm hK1
  try dsimp only at hw
  obtain ⟨hP, hD⟩ := va_join (wr := []) (w1 := [(h0, .inr (7, [.int 0, .int 0, .int i_lasts, v_buffer, .int i_size, .int 0, v_gone, v_first, v_many, v_lengths, v_authors, v_sums, v_row, v_made, .int i_madeSize, v_base, .int i_baseSize, v_text, .int i_textSize, .int i_textSteps, v_other, .int i_otherSize, v_piece, .int i_pieceSize, .int i_at, .int i_end, .int i_value]))]) hP hD [0] [] rfl rfl (by decide) (by decide) hk1 hFc hP1 hD1
  generalize H1 = H at hP hS ⊢
  replace hP : va_P (dC, dI) vwCl [(h0, .inr (7, [.int 0, .int 0, .int i_lasts, v_buffer, .int i_size, .int 0, v_gone, v_first, v_many, v_lengths, v_authors, v_sums, v_row, v_made, .int i_madeSize, v_base, .int i_baseSize, v_text, .int i_textSize, .int i_textSteps, v_other, .int i_otherSize, v_piece, .int i_pieceSize, .int i_at, .int i_end, .int i_value]))] H := hP
  replace hD : va_D A [(h0, .inr (7, [.int 0, .int 0, .int i_lasts, v_buffer, .int i_size, .int 0, v_gone, v_first, v_many, v_lengths, v_authors, v_sums, v_row, v_made, .int i_madeSize, v_base, .int i_baseSize, v_text, .int i_textSize, .int i_textSteps, v_other, .int i_otherSize, v_piece, .int i_pieceSize, .int i_at, .int i_end, .int i_value]))] := hD
  replace hK : va_K (dC, dI) vwCl [] s := hK
  obtain rfl : r_1 = 1 := hw
  refine lv_if_eq (tgt := 25) hx hb d_O_trim_5 (by decide) (fun h9 => absurd h9 (by decide +kernel)) (fun _ => ?_)
  refine lv_aload_n hx hb d_O_trim_8 rfl (lv_at hl 0 rfl) ?_
  refine lv_iload_n hx hb d_O_trim_9 rfl (lv_at hl 1 rfl) ?_
  refine lv_iload_n hx hb d_O_trim_10 rfl (lv_at hl 2 rfl) ?_
  have hPc := hP.sub (ws' := [(h0, .inr (7, [.int 0, .int 0, .int i_lasts, v_buffer, .int i_size, .int 0, v_gone, v_first, v_many, v_lengths, v_authors, v_sums, v_row, v_made, .int i_madeSize, v_base, .int i_baseSize, v_text, .int i_textSize, .int i_textSteps, v_other, .int i_otherSize, v_piece, .int i_pieceSize, .int i_at, .int i_end, .int i_value]))]) [0] rfl
  have hKc := hK.sub (tys' := []) [] rfl
  refine ps_i (va_runV (As := [.int a1, .int a2]) (rest := []) ⟨hx, hb, hml, hown, hw0⟩ (m_isAsked l dC dI h0 0 0 i_lasts v_buffer i_size v_gone v_first v_many v_lengths v_authors v_sums v_row v_made i_madeSize v_base i_baseSize v_text i_textSize i_textSteps v_other i_otherSize v_piece i_pieceSize i_at i_end i_value a1 a2) (cwV 2 hw0 (gd_V 184 185 186 173 187 rfl rfl rfl rfl rfl) rfl rfl rfl (by decide +kernel) ⟨by decide +kernel, by decide +kernel⟩) (prV_R hPc hKc hN (va_recv hKc hPc (ci := 7) (q0 := 0) rfl rfl)) rfl rfl hl.1 rfl (lv_room (Nat.le_of_ble_eq_true rfl)) d_O_trim_11 ⟨by decide +kernel, by decide +kernel⟩) (fun r_3 hr_3 => ?_)
  obtain rfl : r_3 = 0 := hr_3
  refine lv_if_eq (tgt := 25) hx hb d_O_trim_14 (by decide) (fun _ => ?_) (fun h9 => absurd h9 (by decide +kernel))
  refine lv_iconst (v := 0) hx hb d_O_trim_25 (by decide) ?_
  have hP9 := hP.sub (ws' := [(h0, .inr (7, [.int 0, .int 0, .int i_lasts, v_buffer, .int i_size, .int 0, v_gone, v_first, v_many, v_lengths, v_authors, v_sums, v_row, v_made, .int i_madeSize, v_base, .int i_baseSize, v_text, .int i_textSize, .int i_textSteps, v_other, .int i_otherSize, v_piece, .int i_pieceSize, .int i_at, .int i_end, .int i_value]))]) [0] rfl
  have hD9 := hD.sub (ws' := [(h0, .inr (7, [.int 0, .int 0, .int i_lasts, v_buffer, .int i_size, .int 0, v_gone, v_first, v_many, v_lengths, v_authors, v_sums, v_row, v_made, .int i_madeSize, v_base, .int i_baseSize, v_text, .int i_textSize, .int i_textSteps, v_other, .int i_otherSize, v_piece, .int i_pieceSize, .int i_at, .int i_end, .int i_value]))]) [0] (by decide) rfl
  have hK9 := hK.sub (tys' := []) [] rfl
  exact W.zret (v := 0) (ty := .boolean) hx hb hr rfl (fun t ht hW => ⟨⟨0, (), rfl, rfl, by rw [ht]; exact hP9, va_K.moved hW.alike hK9, hD9⟩, hS.F ht⟩) hS.2.2 d_O_trim_26
set_option maxHeartbeats 4000000 in
set_option maxRecDepth 100000 in
theorem m_dropDocument (l : Launch) (dC : Nat → ClassId) (dI : Nat → Nat → Nat) (sz : Nat) (h0 : Nat) (i_thrown : Int32) (i_lasts : Int32) (v_buffer : Value) (i_size : Int32) (v_gone : Value) (v_first : Value) (v_many : Value) (v_lengths : Value) (v_authors : Value) (v_sums : Value) (v_row : Value) (v_made : Value) (i_madeSize : Int32) (v_base : Value) (i_baseSize : Int32) (v_text : Value) (i_textSize : Int32) (i_textSteps : Int32) (v_other : Value) (i_otherSize : Int32) (v_piece : Value) (i_pieceSize : Int32) (i_at : Int32) (i_end : Int32) (i_value : Int32) (a1 : Int32)  : Met l y_O_dropDocument k_O_dropDocument ({ frames := 1, cells := 0, slots := 0, locals := 21 } : Room) (va_Pc [.ref h0, .int a1] (pc_E (dC, dI) [(h0, .inr (7, [.int i_thrown, .int 0, .int i_lasts, v_buffer, .int i_size, .int 0, v_gone, v_first, v_many, v_lengths, v_authors, v_sums, v_row, v_made, .int i_madeSize, v_base, .int i_baseSize, v_text, .int i_textSize, .int i_textSteps, v_other, .int i_otherSize, v_piece, .int i_pieceSize, .int i_at, .int i_end, .int i_value]))] [] sz)) (va_Qi (fun (r : Int32) (_ : Unit) => r = 0) (fun (_ : Unit) t => at_E (dC, dI) (va_A [(h0, .inr (7, [.int i_thrown, .int 0, .int i_lasts, v_buffer, .int i_size, .int 0, v_gone, v_first, v_many, v_lengths, v_authors, v_sums, v_row, v_made, .int i_madeSize, v_base, .int i_baseSize, v_text, .int i_textSize, .int i_textSteps, v_other, .int i_otherSize, v_piece, .int i_pieceSize, .int i_at, .int i_end, .int i_value]))] sz) [(h0, .inr (7, [.int 0, .int 0, .int i_lasts, v_buffer, .int i_size, .int 0, v_gone, v_first, v_many, v_lengths, v_authors, v_sums, v_row, v_made, .int i_madeSize, v_base, .int i_baseSize, v_text, .int i_textSize, .int i_textSteps, v_other, .int i_otherSize, v_piece, .int i_pieceSize, .int i_at, .int i_end, .int i_value]))] [] t) (va_A [(h0, .inr (7, [.int i_thrown, .int 0, .int i_lasts, v_buffer, .int i_size, .int 0, v_gone, v_first, v_many, v_lengths, v_authors, v_sums, v_row, v_made, .int i_madeSize, v_base, .int i_baseSize, v_text, .int i_textSize, .int i_textSteps, v_other, .int i_otherSize, v_piece, .int i_pieceSize, .int i_at, .int i_end, .int i_value]))] sz)) 0 0 (va_A [(h0, .inr (7, [.int i_thrown, .int 0, .int i_lasts, v_buffer, .int i_size, .int 0, v_gone, v_first, v_many, v_lengths, v_authors, v_sums, v_row, v_made, .int i_madeSize, v_base, .int i_baseSize, v_text, .int i_textSize, .int i_textSteps, v_other, .int i_otherSize, v_piece, .int i_pieceSize, .int i_at, .int i_end, .int i_value]))] sz) := by
  refine Met.ofW (cc := prog_9_method_32_code) (maxL := 2) (ret := (some .boolean)) (by decide) rfl ?_
  intro p e s m args below meth c s₁ B hml hv
  obtain ⟨rfl, hsz, hP, hK, hD0, hN⟩ := hv
  have hx := B.exec
  have hb := B.bytes
  have hr := B.returns
  have hts := atoms_spec (ws := k_O_dropDocument) B.pre
  have hw0 : ∀ w ∈ w0, w.before _ s = true := fun w h => hts w (List.mem_cons_of_mem _ h)
  have hown : s.vm.findClass R_O = some m.cls := findClass_of_methodNamed B.named
  have hlocks := B.notSynchronized
  subst hsz
  have hD := hD0.self (sz := s.heap.size)
  generalize hAe : va_A [(h0, .inr (7, [.int i_thrown, .int 0, .int i_lasts, v_buffer, .int i_size, .int 0, v_gone, v_first, v_many, v_lengths, v_authors, v_sums, v_row, v_made, .int i_madeSize, v_base, .int i_baseSize, v_text, .int i_textSize, .int i_textSteps, v_other, .int i_otherSize, v_piece, .int i_pieceSize, .int i_at, .int i_end, .int i_value]))] s.heap.size = A at hD ⊢
  have hA : ∀ q : Nat, s.heap.size ≤ q → A q := fun q h => by rw [← hAe]; exact Or.inr h
  have hS : va_S A s.heap s.heap [] := va_S.rf
  have hP : va_P (dC, dI) vwCl [(h0, .inr (7, [.int i_thrown, .int 0, .int i_lasts, v_buffer, .int i_size, .int 0, v_gone, v_first, v_many, v_lengths, v_authors, v_sums, v_row, v_made, .int i_madeSize, v_base, .int i_baseSize, v_text, .int i_textSize, .int i_textSteps, v_other, .int i_otherSize, v_piece, .int i_pieceSize, .int i_at, .int i_end, .int i_value]))] s.heap := hP
  have hl := lv_entry ([.ref h0, .int a1]) (n := 2) (Nat.le_of_ble_eq_true rfl)
  rw [lg_entry_eq]
  generalize (lg_sl ([.ref h0, .int a1]) ++ List.replicate (2 - (lg_sl ([.ref h0, .int a1])).length) Slot.unset).toArray = ls at hl ⊢
  have hl : lv_has ls 2 [(0, .ref h0), (1, .int a1)] := hl
  refine lv_aload_n hx hb d_O_dropDocument_0 rfl (lv_at hl 0 rfl) ?_
  refine lv_iconst (v := 1) hx hb d_O_dropDocument_1 (by decide) ?_
  have hPc := hP.sub (ws' := [(h0, .inr (7, [.int i_thrown, .int 0, .int i_lasts, v_buffer, .int i_size, .int 0, v_gone, v_first, v_many, v_lengths, v_authors, v_sums, v_row, v_made, .int i_madeSize, v_base, .int i_baseSize, v_text, .int i_textSize, .int i_textSteps, v_other, .int i_otherSize, v_piece, .int i_pieceSize, .int i_at, .int i_end, .int i_value]))]) [0] rfl
  have hKc := hK.sub (tys' := []) [] rfl
  have hDc := hD.sub (ws' := [(h0, .inr (7, [.int i_thrown, .int 0, .int i_lasts, v_buffer, .int i_size, .int 0, v_gone, v_first, v_many, v_lengths, v_authors, v_sums, v_row, v_made, .int i_madeSize, v_base, .int i_baseSize, v_text, .int i_textSize, .int i_textSteps, v_other, .int i_otherSize, v_piece, .int i_pieceSize, .int i_at, .int i_end, .int i_value]))]) [0] (by decide) rfl
  have hFc := va_free (wc := [(h0, .inr (7, [.int i_thrown, .int 0, .int i_lasts, v_buffer, .int i_size, .int 0, v_gone, v_first, v_many, v_lengths, v_authors, v_sums, v_row, v_made, .int i_madeSize, v_base, .int i_baseSize, v_text, .int i_textSize, .int i_textSteps, v_other, .int i_otherSize, v_piece, .int i_pieceSize, .int i_at, .int i_end, .int i_value]))]) hD hS hA [0] rfl
  refine va_calli (va_runV (As := [.int 1]) (rest := []) ⟨hx, hb, hml, hown, hw0⟩ (m_runs l dC dI s.heap.size h0 i_thrown i_lasts v_buffer i_size 0 v_gone v_first v_many v_lengths v_authors v_sums v_row v_made i_madeSize v_base i_baseSize v_text i_textSize i_textSteps v_other i_otherSize v_piece i_pieceSize i_at i_end i_value 1) (cwV 1 hw0 (gd_V 176 177 178 173 179 rfl rfl rfl rfl rfl) rfl rfl rfl (by decide +kernel) ⟨by decide +kernel, by decide +kernel⟩) (prV_E hPc hKc hDc hN (va_recv hKc hPc (ci := 7) (q0 := 0) rfl rfl)) rfl rfl hl.1 rfl (lv_room (Nat.le_of_ble_eq_true rfl)) d_O_dropDocument_2 ⟨by decide +kernel, by decide +kernel⟩) hS (fun q _ h => hFc q h) hFc (fun r_1 u t H1 locs ht hvm hw hB hz1 hk1 hS => ?_)
  obtain ⟨hP1, hK1, hD1⟩ := hB
  rw [ht] at hP1
  have hK1 := va_K.moved hvm.symm hK1
  try dsimp only at hw
  obtain ⟨hP, hD⟩ := va_join (wr := []) (w1 := [(h0, .inr (7, [.int 0, .int 0, .int i_lasts, v_buffer, .int i_size, .int 0, v_gone, v_first, v_many, v_lengths, v_authors, v_sums, v_row, v_made, .int i_madeSize, v_base, .int i_baseSize, v_text, .int i_textSize, .int i_textSteps, v_other, .int i_otherSize, v_piece, .int i_pieceSize, .int i_at, .int i_end, .int i_value]))]) hP hD [0] [] rfl rfl (by decide) (by decide) hk1 hFc hP1 hD1
  generalize H1 = H at hP hS ⊢
  replace hP : va_P (dC, dI) vwCl [(h0, .inr (7, [.int 0, .int 0, .int i_lasts, v_buffer, .int i_size, .int 0, v_gone, v_first, v_many, v_lengths, v_authors, v_sums, v_row, v_made, .int i_madeSize, v_base, .int i_baseSize, v_text, .int i_textSize, .int i_textSteps, v_other, .int i_otherSize, v_piece, .int i_pieceSize, .int i_at, .int i_end, .int i_value]))] H := hP
  replace hD : va_D A [(h0, .inr (7, [.int 0, .int 0, .int i_lasts, v_buffer, .int i_size, .int 0, v_gone, v_first, v_many, v_lengths, v_authors, v_sums, v_row, v_made, .int i_madeSize, v_base, .int i_baseSize, v_text, .int i_textSize, .int i_textSteps, v_other, .int i_otherSize, v_piece, .int i_pieceSize, .int i_at, .int i_end, .int i_value]))] := hD
  replace hK : va_K (dC, dI) vwCl [] s := hK
  obtain rfl : r_1 = 1 := hw
  refine lv_if_eq (tgt := 24) hx hb d_O_dropDocument_5 (by decide) (fun h9 => absurd h9 (by decide +kernel)) (fun _ => ?_)
  refine lv_aload_n hx hb d_O_dropDocument_8 rfl (lv_at hl 0 rfl) ?_
  refine lv_iload_n hx hb d_O_dropDocument_9 rfl (lv_at hl 1 rfl) ?_
  have hPc := hP.sub (ws' := [(h0, .inr (7, [.int 0, .int 0, .int i_lasts, v_buffer, .int i_size, .int 0, v_gone, v_first, v_many, v_lengths, v_authors, v_sums, v_row, v_made, .int i_madeSize, v_base, .int i_baseSize, v_text, .int i_textSize, .int i_textSteps, v_other, .int i_otherSize, v_piece, .int i_pieceSize, .int i_at, .int i_end, .int i_value]))]) [0] rfl
  have hKc := hK.sub (tys' := []) [] rfl
  refine ps_i (va_runV (As := [.int a1]) (rest := []) ⟨hx, hb, hml, hown, hw0⟩ (m_isDocument l dC dI h0 0 0 i_lasts v_buffer i_size v_gone v_first v_many v_lengths v_authors v_sums v_row v_made i_madeSize v_base i_baseSize v_text i_textSize i_textSteps v_other i_otherSize v_piece i_pieceSize i_at i_end i_value a1) (cwV 1 hw0 (gd_V 170 171 172 173 174 rfl rfl rfl rfl rfl) rfl rfl rfl (by decide +kernel) ⟨by decide +kernel, by decide +kernel⟩) (prV_R hPc hKc hN (va_recv hKc hPc (ci := 7) (q0 := 0) rfl rfl)) rfl rfl hl.1 rfl (lv_room (Nat.le_of_ble_eq_true rfl)) d_O_dropDocument_10 ⟨by decide +kernel, by decide +kernel⟩) (fun r_3 hr_3 => ?_)
  obtain rfl : r_3 = 0 := hr_3
  refine lv_if_eq (tgt := 24) hx hb d_O_dropDocument_13 (by decide) (fun _ => ?_) (fun h9 => absurd h9 (by decide +kernel))
  refine lv_iconst (v := 0) hx hb d_O_dropDocument_24 (by decide) ?_
  have hP9 := hP.sub (ws' := [(h0, .inr (7, [.int 0, .int 0, .int i_lasts, v_buffer, .int i_size, .int 0, v_gone, v_first, v_many, v_lengths, v_authors, v_sums, v_row, v_made, .int i_madeSize, v_base, .int i_baseSize, v_text, .int i_textSize, .int i_textSteps, v_other, .int i_otherSize, v_piece, .int i_pieceSize, .int i_at, .int i_end, .int i_value]))]) [0] rfl
  have hD9 := hD.sub (ws' := [(h0, .inr (7, [.int 0, .int 0, .int i_lasts, v_buffer, .int i_size, .int 0, v_gone, v_first, v_many, v_lengths, v_authors, v_sums, v_row, v_made, .int i_madeSize, v_base, .int i_baseSize, v_text, .int i_textSize, .int i_textSteps, v_other, .int i_otherSize, v_piece, .int i_pieceSize, .int i_at, .int i_end, .int i_value]))]) [0] (by decide) rfl
  have hK9 := hK.sub (tys' := []) [] rfl
  exact W.zret (v := 0) (ty := .boolean) hx hb hr rfl (fun t ht hW => ⟨⟨0, (), rfl, rfl, by rw [ht]; exact hP9, va_K.moved hW.alike hK9, hD9⟩, hS.F ht⟩) hS.2.2 d_O_dropDocument_25
set_option maxHeartbeats 4000000 in
set_option maxRecDepth 100000 in
theorem m_pieceByte (l : Launch) (dC : Nat → ClassId) (dI : Nat → Nat → Nat) (sz : Nat) (h0 : Nat) (i_thrown : Int32) (i_lasts : Int32) (v_buffer : Value) (i_size : Int32) (v_gone : Value) (v_first : Value) (v_many : Value) (v_lengths : Value) (v_authors : Value) (v_sums : Value) (v_row : Value) (v_made : Value) (i_madeSize : Int32) (v_base : Value) (i_baseSize : Int32) (v_text : Value) (i_textSize : Int32) (i_textSteps : Int32) (v_other : Value) (i_otherSize : Int32) (v_piece : Value) (i_pieceSize : Int32) (i_at : Int32) (i_end : Int32) (i_value : Int32) (a1 : Int32) (a2 : Int32) (a3 : Int32)  : Met l y_O_pieceByte k_O_pieceByte ({ frames := 2, cells := 0, slots := 0, locals := 43 } : Room) (va_Pc [.ref h0, .int a1, .int a2, .int a3] (pc_E (dC, dI) [(h0, .inr (7, [.int i_thrown, .int 0, .int i_lasts, v_buffer, .int i_size, .int 0, v_gone, v_first, v_many, v_lengths, v_authors, v_sums, v_row, v_made, .int i_madeSize, v_base, .int i_baseSize, v_text, .int i_textSize, .int i_textSteps, v_other, .int i_otherSize, v_piece, .int i_pieceSize, .int i_at, .int i_end, .int i_value]))] [] sz)) (va_Qi (fun (r : Int32) (_ : Unit) => r = (-1)) (fun (_ : Unit) t => at_E (dC, dI) (va_A [(h0, .inr (7, [.int i_thrown, .int 0, .int i_lasts, v_buffer, .int i_size, .int 0, v_gone, v_first, v_many, v_lengths, v_authors, v_sums, v_row, v_made, .int i_madeSize, v_base, .int i_baseSize, v_text, .int i_textSize, .int i_textSteps, v_other, .int i_otherSize, v_piece, .int i_pieceSize, .int i_at, .int i_end, .int i_value]))] sz) [(h0, .inr (7, [.int 0, .int 0, .int i_lasts, v_buffer, .int i_size, .int 0, v_gone, v_first, v_many, v_lengths, v_authors, v_sums, v_row, v_made, .int i_madeSize, v_base, .int i_baseSize, v_text, .int i_textSize, .int i_textSteps, v_other, .int i_otherSize, v_piece, .int i_pieceSize, .int i_at, .int i_end, .int i_value]))] [] t) (va_A [(h0, .inr (7, [.int i_thrown, .int 0, .int i_lasts, v_buffer, .int i_size, .int 0, v_gone, v_first, v_many, v_lengths, v_authors, v_sums, v_row, v_made, .int i_madeSize, v_base, .int i_baseSize, v_text, .int i_textSize, .int i_textSteps, v_other, .int i_otherSize, v_piece, .int i_pieceSize, .int i_at, .int i_end, .int i_value]))] sz)) 0 0 (va_A [(h0, .inr (7, [.int i_thrown, .int 0, .int i_lasts, v_buffer, .int i_size, .int 0, v_gone, v_first, v_many, v_lengths, v_authors, v_sums, v_row, v_made, .int i_madeSize, v_base, .int i_baseSize, v_text, .int i_textSize, .int i_textSteps, v_other, .int i_otherSize, v_piece, .int i_pieceSize, .int i_at, .int i_end, .int i_value]))] sz) := by
  refine Met.ofW (cc := prog_9_method_35_code) (maxL := 5) (ret := (some .int)) (by decide) rfl ?_
  intro p e s m args below meth c s₁ B hml hv
  obtain ⟨rfl, hsz, hP, hK, hD0, hN⟩ := hv
  have hx := B.exec
  have hb := B.bytes
  have hr := B.returns
  have hts := atoms_spec (ws := k_O_pieceByte) B.pre
  have hw0 : ∀ w ∈ w0, w.before _ s = true := fun w h => hts w (List.mem_cons_of_mem _ h)
  have hown : s.vm.findClass R_O = some m.cls := findClass_of_methodNamed B.named
  have hlocks := B.notSynchronized
  subst hsz
  have hD := hD0.self (sz := s.heap.size)
  generalize hAe : va_A [(h0, .inr (7, [.int i_thrown, .int 0, .int i_lasts, v_buffer, .int i_size, .int 0, v_gone, v_first, v_many, v_lengths, v_authors, v_sums, v_row, v_made, .int i_madeSize, v_base, .int i_baseSize, v_text, .int i_textSize, .int i_textSteps, v_other, .int i_otherSize, v_piece, .int i_pieceSize, .int i_at, .int i_end, .int i_value]))] s.heap.size = A at hD ⊢
  have hA : ∀ q : Nat, s.heap.size ≤ q → A q := fun q h => by rw [← hAe]; exact Or.inr h
  have hS : va_S A s.heap s.heap [] := va_S.rf
  have hP : va_P (dC, dI) vwCl [(h0, .inr (7, [.int i_thrown, .int 0, .int i_lasts, v_buffer, .int i_size, .int 0, v_gone, v_first, v_many, v_lengths, v_authors, v_sums, v_row, v_made, .int i_madeSize, v_base, .int i_baseSize, v_text, .int i_textSize, .int i_textSteps, v_other, .int i_otherSize, v_piece, .int i_pieceSize, .int i_at, .int i_end, .int i_value]))] s.heap := hP
  have hl := lv_entry ([.ref h0, .int a1, .int a2, .int a3]) (n := 5) (Nat.le_of_ble_eq_true rfl)
  rw [lg_entry_eq]
  generalize (lg_sl ([.ref h0, .int a1, .int a2, .int a3]) ++ List.replicate (5 - (lg_sl ([.ref h0, .int a1, .int a2, .int a3])).length) Slot.unset).toArray = ls at hl ⊢
  have hl : lv_has ls 5 [(0, .ref h0), (1, .int a1), (2, .int a2), (3, .int a3)] := hl
  refine lv_aload_n hx hb d_O_pieceByte_0 rfl (lv_at hl 0 rfl) ?_
  refine lv_iconst (v := 1) hx hb d_O_pieceByte_1 (by decide) ?_
  have hPc := hP.sub (ws' := [(h0, .inr (7, [.int i_thrown, .int 0, .int i_lasts, v_buffer, .int i_size, .int 0, v_gone, v_first, v_many, v_lengths, v_authors, v_sums, v_row, v_made, .int i_madeSize, v_base, .int i_baseSize, v_text, .int i_textSize, .int i_textSteps, v_other, .int i_otherSize, v_piece, .int i_pieceSize, .int i_at, .int i_end, .int i_value]))]) [0] rfl
  have hKc := hK.sub (tys' := []) [] rfl
  have hDc := hD.sub (ws' := [(h0, .inr (7, [.int i_thrown, .int 0, .int i_lasts, v_buffer, .int i_size, .int 0, v_gone, v_first, v_many, v_lengths, v_authors, v_sums, v_row, v_made, .int i_madeSize, v_base, .int i_baseSize, v_text, .int i_textSize, .int i_textSteps, v_other, .int i_otherSize, v_piece, .int i_pieceSize, .int i_at, .int i_end, .int i_value]))]) [0] (by decide) rfl
  have hFc := va_free (wc := [(h0, .inr (7, [.int i_thrown, .int 0, .int i_lasts, v_buffer, .int i_size, .int 0, v_gone, v_first, v_many, v_lengths, v_authors, v_sums, v_row, v_made, .int i_madeSize, v_base, .int i_baseSize, v_text, .int i_textSize, .int i_textSteps, v_other, .int i_otherSize, v_piece, .int i_pieceSize, .int i_at, .int i_end, .int i_value]))]) hD hS hA [0] rfl
  refine va_calli (va_runV (As := [.int 1]) (rest := []) ⟨hx, hb, hml, hown, hw0⟩ (m_runs l dC dI s.heap.size h0 i_thrown i_lasts v_buffer i_size 0 v_gone v_first v_many v_lengths v_authors v_sums v_row v_made i_madeSize v_base i_baseSize v_text i_textSize i_textSteps v_other i_otherSize v_piece i_pieceSize i_at i_end i_value 1) (cwV 1 hw0 (gd_V 176 177 178 173 179 rfl rfl rfl rfl rfl) rfl rfl rfl (by decide +kernel) ⟨by decide +kernel, by decide +kernel⟩) (prV_E hPc hKc hDc hN (va_recv hKc hPc (ci := 7) (q0 := 0) rfl rfl)) rfl rfl hl.1 rfl (lv_room (Nat.le_of_ble_eq_true rfl)) d_O_pieceByte_2 ⟨by decide +kernel, by decide +kernel⟩) hS (fun q _ h => hFc q h) hFc (fun r_1 u t H1 locs ht hvm hw hB hz1 hk1 hS => ?_)
  obtain ⟨hP1, hK1, hD1⟩ := hB
  rw [ht] at hP1
  have hK1 := va_K.moved hvm.symm hK1
  try dsimp only at hw
  obtain ⟨hP, hD⟩ := va_join (wr := []) (w1 := [(h0, .inr (7, [.int 0, .int 0, .int i_lasts, v_buffer, .int i_size, .int 0, v_gone, v_first, v_many, v_lengths, v_authors, v_sums, v_row, v_made, .int i_madeSize, v_base, .int i_baseSize, v_text, .int i_textSize, .int i_textSteps, v_other, .int i_otherSize, v_piece, .int i_pieceSize, .int i_at, .int i_end, .int i_value]))]) hP hD [0] [] rfl rfl (by decide) (by decide) hk1 hFc hP1 hD1
  generalize H1 = H at hP hS ⊢
  replace hP : va_P (dC, dI) vwCl [(h0, .inr (7, [.int 0, .int 0, .int i_lasts, v_buffer, .int i_size, .int 0, v_gone, v_first, v_many, v_lengths, v_authors, v_sums, v_row, v_made, .int i_madeSize, v_base, .int i_baseSize, v_text, .int i_textSize, .int i_textSteps, v_other, .int i_otherSize, v_piece, .int i_pieceSize, .int i_at, .int i_end, .int i_value]))] H := hP
  replace hD : va_D A [(h0, .inr (7, [.int 0, .int 0, .int i_lasts, v_buffer, .int i_size, .int 0, v_gone, v_first, v_many, v_lengths, v_authors, v_sums, v_row, v_made, .int i_madeSize, v_base, .int i_baseSize, v_text, .int i_textSize, .int i_textSteps, v_other, .int i_otherSize, v_piece, .int i_pieceSize, .int i_at, .int i_end, .int i_value]))] := hD
  replace hK : va_K (dC, dI) vwCl [] s := hK
  obtain rfl : r_1 = 1 := hw
  refine lv_if_ne (tgt := 10) hx hb d_O_pieceByte_5 (by decide) (fun _ => ?_) (fun h9 => absurd h9 (by decide +kernel))
  refine lv_aload_n hx hb d_O_pieceByte_10 rfl (lv_at hl 0 rfl) ?_
  refine lv_iload_n hx hb d_O_pieceByte_11 rfl (lv_at hl 1 rfl) ?_
  refine lv_iload_n hx hb d_O_pieceByte_12 rfl (lv_at hl 2 rfl) ?_
  have hPc := hP.sub (ws' := [(h0, .inr (7, [.int 0, .int 0, .int i_lasts, v_buffer, .int i_size, .int 0, v_gone, v_first, v_many, v_lengths, v_authors, v_sums, v_row, v_made, .int i_madeSize, v_base, .int i_baseSize, v_text, .int i_textSize, .int i_textSteps, v_other, .int i_otherSize, v_piece, .int i_pieceSize, .int i_at, .int i_end, .int i_value]))]) [0] rfl
  have hKc := hK.sub (tys' := []) [] rfl
  refine ps_i (va_runV (As := [.int a1, .int a2]) (rest := []) ⟨hx, hb, hml, hown, hw0⟩ (m_kept l dC dI h0 0 0 i_lasts v_buffer i_size v_gone v_first v_many v_lengths v_authors v_sums v_row v_made i_madeSize v_base i_baseSize v_text i_textSize i_textSteps v_other i_otherSize v_piece i_pieceSize i_at i_end i_value a1 a2) (cwV 2 hw0 (gd_V 188 189 190 173 191 rfl rfl rfl rfl rfl) rfl rfl rfl (by decide +kernel) ⟨by decide +kernel, by decide +kernel⟩) (prV_R hPc hKc hN (va_recv hKc hPc (ci := 7) (q0 := 0) rfl rfl)) rfl rfl hl.1 rfl (lv_room (Nat.le_of_ble_eq_true rfl)) d_O_pieceByte_13 ⟨by decide +kernel, by decide +kernel⟩) (fun r_3 hr_3 => ?_)
  obtain rfl : r_3 = (-1) := hr_3
  refine lv_istore (lv' := [(4, .int (-1)), (0, .ref h0), (1, .int a1), (2, .int a2), (3, .int a3)]) hx hb d_O_pieceByte_16 hl (by decide) rfl (fun ls hl => ?_)
  refine lv_iload hx hb d_O_pieceByte_18 (lv_at hl 0 rfl) ?_
  refine lv_iconst (v := (-1)) hx hb d_O_pieceByte_20 (by decide) ?_
  refine lv_icmp_eq (tgt := 59) hx hb d_O_pieceByte_21 (by decide) (fun _ => ?_) (fun h9 => absurd h9 (by decide +kernel))
  refine lv_iconst (v := (-1)) hx hb d_O_pieceByte_59 (by decide) ?_
  have hP9 := hP.sub (ws' := [(h0, .inr (7, [.int 0, .int 0, .int i_lasts, v_buffer, .int i_size, .int 0, v_gone, v_first, v_many, v_lengths, v_authors, v_sums, v_row, v_made, .int i_madeSize, v_base, .int i_baseSize, v_text, .int i_textSize, .int i_textSteps, v_other, .int i_otherSize, v_piece, .int i_pieceSize, .int i_at, .int i_end, .int i_value]))]) [0] rfl
  have hD9 := hD.sub (ws' := [(h0, .inr (7, [.int 0, .int 0, .int i_lasts, v_buffer, .int i_size, .int 0, v_gone, v_first, v_many, v_lengths, v_authors, v_sums, v_row, v_made, .int i_madeSize, v_base, .int i_baseSize, v_text, .int i_textSize, .int i_textSteps, v_other, .int i_otherSize, v_piece, .int i_pieceSize, .int i_at, .int i_end, .int i_value]))]) [0] (by decide) rfl
  have hK9 := hK.sub (tys' := []) [] rfl
  exact W.iret (v := (-1)) hx hb hr (fun t ht hW => ⟨⟨(-1), (), rfl, rfl, by rw [ht]; exact hP9, va_K.moved hW.alike hK9, hD9⟩, hS.F ht⟩) hS.2.2 d_O_pieceByte_60
set_option maxHeartbeats 4000000 in
set_option maxRecDepth 100000 in
theorem m_damage (l : Launch) (dC : Nat → ClassId) (dI : Nat → Nat → Nat) (sz : Nat) (h0 : Nat) (i_thrown : Int32) (i_lasts : Int32) (v_buffer : Value) (i_size : Int32) (v_gone : Value) (v_first : Value) (v_many : Value) (v_lengths : Value) (v_authors : Value) (v_sums : Value) (v_row : Value) (v_made : Value) (i_madeSize : Int32) (v_base : Value) (i_baseSize : Int32) (v_text : Value) (i_textSize : Int32) (i_textSteps : Int32) (v_other : Value) (i_otherSize : Int32) (v_piece : Value) (i_pieceSize : Int32) (i_at : Int32) (i_end : Int32) (i_value : Int32) (a1 : Int32) (a2 : Int32) (a3 : Int32) (a4 : Int32)  : Met l y_O_damage k_O_damage ({ frames := 2, cells := 0, slots := 0, locals := 43 } : Room) (va_Pc [.ref h0, .int a1, .int a2, .int a3, .int a4] (pc_E (dC, dI) [(h0, .inr (7, [.int i_thrown, .int 0, .int i_lasts, v_buffer, .int i_size, .int 0, v_gone, v_first, v_many, v_lengths, v_authors, v_sums, v_row, v_made, .int i_madeSize, v_base, .int i_baseSize, v_text, .int i_textSize, .int i_textSteps, v_other, .int i_otherSize, v_piece, .int i_pieceSize, .int i_at, .int i_end, .int i_value]))] [] sz)) (va_Qi (fun (r : Int32) (_ : Unit) => r = 0) (fun (_ : Unit) t => at_E (dC, dI) (va_A [(h0, .inr (7, [.int i_thrown, .int 0, .int i_lasts, v_buffer, .int i_size, .int 0, v_gone, v_first, v_many, v_lengths, v_authors, v_sums, v_row, v_made, .int i_madeSize, v_base, .int i_baseSize, v_text, .int i_textSize, .int i_textSteps, v_other, .int i_otherSize, v_piece, .int i_pieceSize, .int i_at, .int i_end, .int i_value]))] sz) [(h0, .inr (7, [.int 0, .int 0, .int i_lasts, v_buffer, .int i_size, .int 0, v_gone, v_first, v_many, v_lengths, v_authors, v_sums, v_row, v_made, .int i_madeSize, v_base, .int i_baseSize, v_text, .int i_textSize, .int i_textSteps, v_other, .int i_otherSize, v_piece, .int i_pieceSize, .int i_at, .int i_end, .int i_value]))] [] t) (va_A [(h0, .inr (7, [.int i_thrown, .int 0, .int i_lasts, v_buffer, .int i_size, .int 0, v_gone, v_first, v_many, v_lengths, v_authors, v_sums, v_row, v_made, .int i_madeSize, v_base, .int i_baseSize, v_text, .int i_textSize, .int i_textSteps, v_other, .int i_otherSize, v_piece, .int i_pieceSize, .int i_at, .int i_end, .int i_value]))] sz)) 0 0 (va_A [(h0, .inr (7, [.int i_thrown, .int 0, .int i_lasts, v_buffer, .int i_size, .int 0, v_gone, v_first, v_many, v_lengths, v_authors, v_sums, v_row, v_made, .int i_madeSize, v_base, .int i_baseSize, v_text, .int i_textSize, .int i_textSteps, v_other, .int i_otherSize, v_piece, .int i_pieceSize, .int i_at, .int i_end, .int i_value]))] sz) := by
  refine Met.ofW (cc := prog_9_method_36_code) (maxL := 6) (ret := (some .boolean)) (by decide) rfl ?_
  intro p e s m args below meth c s₁ B hml hv
  obtain ⟨rfl, hsz, hP, hK, hD0, hN⟩ := hv
  have hx := B.exec
  have hb := B.bytes
  have hr := B.returns
  have hts := atoms_spec (ws := k_O_damage) B.pre
  have hw0 : ∀ w ∈ w0, w.before _ s = true := fun w h => hts w (List.mem_cons_of_mem _ h)
  have hown : s.vm.findClass R_O = some m.cls := findClass_of_methodNamed B.named
  have hlocks := B.notSynchronized
  subst hsz
  have hD := hD0.self (sz := s.heap.size)
  generalize hAe : va_A [(h0, .inr (7, [.int i_thrown, .int 0, .int i_lasts, v_buffer, .int i_size, .int 0, v_gone, v_first, v_many, v_lengths, v_authors, v_sums, v_row, v_made, .int i_madeSize, v_base, .int i_baseSize, v_text, .int i_textSize, .int i_textSteps, v_other, .int i_otherSize, v_piece, .int i_pieceSize, .int i_at, .int i_end, .int i_value]))] s.heap.size = A at hD ⊢
  have hA : ∀ q : Nat, s.heap.size ≤ q → A q := fun q h => by rw [← hAe]; exact Or.inr h
  have hS : va_S A s.heap s.heap [] := va_S.rf
  have hP : va_P (dC, dI) vwCl [(h0, .inr (7, [.int i_thrown, .int 0, .int i_lasts, v_buffer, .int i_size, .int 0, v_gone, v_first, v_many, v_lengths, v_authors, v_sums, v_row, v_made, .int i_madeSize, v_base, .int i_baseSize, v_text, .int i_textSize, .int i_textSteps, v_other, .int i_otherSize, v_piece, .int i_pieceSize, .int i_at, .int i_end, .int i_value]))] s.heap := hP
  have hl := lv_entry ([.ref h0, .int a1, .int a2, .int a3, .int a4]) (n := 6) (Nat.le_of_ble_eq_true rfl)
  rw [lg_entry_eq]
  generalize (lg_sl ([.ref h0, .int a1, .int a2, .int a3, .int a4]) ++ List.replicate (6 - (lg_sl ([.ref h0, .int a1, .int a2, .int a3, .int a4])).length) Slot.unset).toArray = ls at hl ⊢
  have hl : lv_has ls 6 [(0, .ref h0), (1, .int a1), (2, .int a2), (3, .int a3), (4, .int a4)] := hl
  refine lv_aload_n hx hb d_O_damage_0 rfl (lv_at hl 0 rfl) ?_
  refine lv_iconst (v := 1) hx hb d_O_damage_1 (by decide) ?_
  have hPc := hP.sub (ws' := [(h0, .inr (7, [.int i_thrown, .int 0, .int i_lasts, v_buffer, .int i_size, .int 0, v_gone, v_first, v_many, v_lengths, v_authors, v_sums, v_row, v_made, .int i_madeSize, v_base, .int i_baseSize, v_text, .int i_textSize, .int i_textSteps, v_other, .int i_otherSize, v_piece, .int i_pieceSize, .int i_at, .int i_end, .int i_value]))]) [0] rfl
  have hKc := hK.sub (tys' := []) [] rfl
  have hDc := hD.sub (ws' := [(h0, .inr (7, [.int i_thrown, .int 0, .int i_lasts, v_buffer, .int i_size, .int 0, v_gone, v_first, v_many, v_lengths, v_authors, v_sums, v_row, v_made, .int i_madeSize, v_base, .int i_baseSize, v_text, .int i_textSize, .int i_textSteps, v_other, .int i_otherSize, v_piece, .int i_pieceSize, .int i_at, .int i_end, .int i_value]))]) [0] (by decide) rfl
  have hFc := va_free (wc := [(h0, .inr (7, [.int i_thrown, .int 0, .int i_lasts, v_buffer, .int i_size, .int 0, v_gone, v_first, v_many, v_lengths, v_authors, v_sums, v_row, v_made, .int i_madeSize, v_base, .int i_baseSize, v_text, .int i_textSize, .int i_textSteps, v_other, .int i_otherSize, v_piece, .int i_pieceSize, .int i_at, .int i_end, .int i_value]))]) hD hS hA [0] rfl
  refine va_calli (va_runV (As := [.int 1]) (rest := []) ⟨hx, hb, hml, hown, hw0⟩ (m_runs l dC dI s.heap.size h0 i_thrown i_lasts v_buffer i_size 0 v_gone v_first v_many v_lengths v_authors v_sums v_row v_made i_madeSize v_base i_baseSize v_text i_textSize i_textSteps v_other i_otherSize v_piece i_pieceSize i_at i_end i_value 1) (cwV 1 hw0 (gd_V 176 177 178 173 179 rfl rfl rfl rfl rfl) rfl rfl rfl (by decide +kernel) ⟨by decide +kernel, by decide +kernel⟩) (prV_E hPc hKc hDc hN (va_recv hKc hPc (ci := 7) (q0 := 0) rfl rfl)) rfl rfl hl.1 rfl (lv_room (Nat.le_of_ble_eq_true rfl)) d_O_damage_2 ⟨by decide +kernel, by decide +kernel⟩) hS (fun q _ h => hFc q h) hFc (fun r_1 u t H1 locs ht hvm hw hB hz1 hk1 hS => ?_)
  obtain ⟨hP1, hK1, hD1⟩ := hB
  rw [ht] at hP1
  have hK1 := va_K.moved hvm.symm hK1
  try dsimp only at hw
  obtain ⟨hP, hD⟩ := va_join (wr := []) (w1 := [(h0, .inr (7, [.int 0, .int 0, .int i_lasts, v_buffer, .int i_size, .int 0, v_gone, v_first, v_many, v_lengths, v_authors, v_sums, v_row, v_made, .int i_madeSize, v_base, .int i_baseSize, v_text, .int i_textSize, .int i_textSteps, v_other, .int i_otherSize, v_piece, .int i_pieceSize, .int i_at, .int i_end, .int i_value]))]) hP hD [0] [] rfl rfl (by decide) (by decide) hk1 hFc hP1 hD1
  generalize H1 = H at hP hS ⊢
  replace hP : va_P (dC, dI) vwCl [(h0, .inr (7, [.int 0, .int 0, .int i_lasts, v_buffer, .int i_size, .int 0, v_gone, v_first, v_many, v_lengths, v_authors, v_sums, v_row, v_made, .int i_madeSize, v_base, .int i_baseSize, v_text, .int i_textSize, .int i_textSteps, v_other, .int i_otherSize, v_piece, .int i_pieceSize, .int i_at, .int i_end, .int i_value]))] H := hP
  replace hD : va_D A [(h0, .inr (7, [.int 0, .int 0, .int i_lasts, v_buffer, .int i_size, .int 0, v_gone, v_first, v_many, v_lengths, v_authors, v_sums, v_row, v_made, .int i_madeSize, v_base, .int i_baseSize, v_text, .int i_textSize, .int i_textSteps, v_other, .int i_otherSize, v_piece, .int i_pieceSize, .int i_at, .int i_end, .int i_value]))] := hD
  replace hK : va_K (dC, dI) vwCl [] s := hK
  obtain rfl : r_1 = 1 := hw
  refine lv_if_ne (tgt := 10) hx hb d_O_damage_5 (by decide) (fun _ => ?_) (fun h9 => absurd h9 (by decide +kernel))
  refine lv_aload_n hx hb d_O_damage_10 rfl (lv_at hl 0 rfl) ?_
  refine lv_iload_n hx hb d_O_damage_11 rfl (lv_at hl 1 rfl) ?_
  refine lv_iload_n hx hb d_O_damage_12 rfl (lv_at hl 2 rfl) ?_
  have hPc := hP.sub (ws' := [(h0, .inr (7, [.int 0, .int 0, .int i_lasts, v_buffer, .int i_size, .int 0, v_gone, v_first, v_many, v_lengths, v_authors, v_sums, v_row, v_made, .int i_madeSize, v_base, .int i_baseSize, v_text, .int i_textSize, .int i_textSteps, v_other, .int i_otherSize, v_piece, .int i_pieceSize, .int i_at, .int i_end, .int i_value]))]) [0] rfl
  have hKc := hK.sub (tys' := []) [] rfl
  refine ps_i (va_runV (As := [.int a1, .int a2]) (rest := []) ⟨hx, hb, hml, hown, hw0⟩ (m_kept l dC dI h0 0 0 i_lasts v_buffer i_size v_gone v_first v_many v_lengths v_authors v_sums v_row v_made i_madeSize v_base i_baseSize v_text i_textSize i_textSteps v_other i_otherSize v_piece i_pieceSize i_at i_end i_value a1 a2) (cwV 2 hw0 (gd_V 188 189 190 173 191 rfl rfl rfl rfl rfl) rfl rfl rfl (by decide +kernel) ⟨by decide +kernel, by decide +kernel⟩) (prV_R hPc hKc hN (va_recv hKc hPc (ci := 7) (q0 := 0) rfl rfl)) rfl rfl hl.1 rfl (lv_room (Nat.le_of_ble_eq_true rfl)) d_O_damage_13 ⟨by decide +kernel, by decide +kernel⟩) (fun r_3 hr_3 => ?_)
  obtain rfl : r_3 = (-1) := hr_3
  refine lv_istore (lv' := [(5, .int (-1)), (0, .ref h0), (1, .int a1), (2, .int a2), (3, .int a3), (4, .int a4)]) hx hb d_O_damage_16 hl (by decide) rfl (fun ls hl => ?_)
  refine lv_iload hx hb d_O_damage_18 (lv_at hl 0 rfl) ?_
  refine lv_iconst (v := (-1)) hx hb d_O_damage_20 (by decide) ?_
  refine lv_icmp_eq (tgt := 39) hx hb d_O_damage_21 (by decide) (fun _ => ?_) (fun h9 => absurd h9 (by decide +kernel))
  refine lv_iconst (v := 0) hx hb d_O_damage_39 (by decide) ?_
  have hP9 := hP.sub (ws' := [(h0, .inr (7, [.int 0, .int 0, .int i_lasts, v_buffer, .int i_size, .int 0, v_gone, v_first, v_many, v_lengths, v_authors, v_sums, v_row, v_made, .int i_madeSize, v_base, .int i_baseSize, v_text, .int i_textSize, .int i_textSteps, v_other, .int i_otherSize, v_piece, .int i_pieceSize, .int i_at, .int i_end, .int i_value]))]) [0] rfl
  have hD9 := hD.sub (ws' := [(h0, .inr (7, [.int 0, .int 0, .int i_lasts, v_buffer, .int i_size, .int 0, v_gone, v_first, v_many, v_lengths, v_authors, v_sums, v_row, v_made, .int i_madeSize, v_base, .int i_baseSize, v_text, .int i_textSize, .int i_textSteps, v_other, .int i_otherSize, v_piece, .int i_pieceSize, .int i_at, .int i_end, .int i_value]))]) [0] (by decide) rfl
  have hK9 := hK.sub (tys' := []) [] rfl
  exact W.zret (v := 0) (ty := .boolean) hx hb hr rfl (fun t ht hW => ⟨⟨0, (), rfl, rfl, by rw [ht]; exact hP9, va_K.moved hW.alike hK9, hD9⟩, hS.F ht⟩) hS.2.2 d_O_damage_40
set_option maxHeartbeats 4000000 in
set_option maxRecDepth 100000 in
theorem m_common (l : Launch) (dC : Nat → ClassId) (dI : Nat → Nat → Nat) (sz : Nat) (h0 : Nat) (i_thrown : Int32) (i_lasts : Int32) (v_buffer : Value) (i_size : Int32) (v_gone : Value) (v_first : Value) (v_many : Value) (v_lengths : Value) (v_authors : Value) (v_sums : Value) (v_row : Value) (v_made : Value) (i_madeSize : Int32) (v_base : Value) (i_baseSize : Int32) (v_text : Value) (i_textSize : Int32) (i_textSteps : Int32) (v_other : Value) (i_otherSize : Int32) (v_piece : Value) (i_pieceSize : Int32) (i_at : Int32) (i_end : Int32) (i_value : Int32) (a1 : Int32) (a2 : Int32) (a3 : Int32) (a4 : Int32)  : Met l y_O_common k_O_common ({ frames := 2, cells := 0, slots := 0, locals := 43 } : Room) (va_Pc [.ref h0, .int a1, .int a2, .int a3, .int a4] (pc_E (dC, dI) [(h0, .inr (7, [.int i_thrown, .int 0, .int i_lasts, v_buffer, .int i_size, .int 0, v_gone, v_first, v_many, v_lengths, v_authors, v_sums, v_row, v_made, .int i_madeSize, v_base, .int i_baseSize, v_text, .int i_textSize, .int i_textSteps, v_other, .int i_otherSize, v_piece, .int i_pieceSize, .int i_at, .int i_end, .int i_value]))] [] sz)) (va_Qi (fun (r : Int32) (_ : Unit) => r = (-1)) (fun (_ : Unit) t => at_E (dC, dI) (va_A [(h0, .inr (7, [.int i_thrown, .int 0, .int i_lasts, v_buffer, .int i_size, .int 0, v_gone, v_first, v_many, v_lengths, v_authors, v_sums, v_row, v_made, .int i_madeSize, v_base, .int i_baseSize, v_text, .int i_textSize, .int i_textSteps, v_other, .int i_otherSize, v_piece, .int i_pieceSize, .int i_at, .int i_end, .int i_value]))] sz) [(h0, .inr (7, [.int 0, .int 0, .int i_lasts, v_buffer, .int i_size, .int 0, v_gone, v_first, v_many, v_lengths, v_authors, v_sums, v_row, v_made, .int i_madeSize, v_base, .int i_baseSize, v_text, .int i_textSize, .int i_textSteps, v_other, .int i_otherSize, v_piece, .int i_pieceSize, .int i_at, .int i_end, .int i_value]))] [] t) (va_A [(h0, .inr (7, [.int i_thrown, .int 0, .int i_lasts, v_buffer, .int i_size, .int 0, v_gone, v_first, v_many, v_lengths, v_authors, v_sums, v_row, v_made, .int i_madeSize, v_base, .int i_baseSize, v_text, .int i_textSize, .int i_textSteps, v_other, .int i_otherSize, v_piece, .int i_pieceSize, .int i_at, .int i_end, .int i_value]))] sz)) 0 0 (va_A [(h0, .inr (7, [.int i_thrown, .int 0, .int i_lasts, v_buffer, .int i_size, .int 0, v_gone, v_first, v_many, v_lengths, v_authors, v_sums, v_row, v_made, .int i_madeSize, v_base, .int i_baseSize, v_text, .int i_textSize, .int i_textSteps, v_other, .int i_otherSize, v_piece, .int i_pieceSize, .int i_at, .int i_end, .int i_value]))] sz) := by
  refine Met.ofW (cc := prog_9_method_38_code) (maxL := 8) (ret := (some .int)) (by decide) rfl ?_
  intro p e s m args below meth c s₁ B hml hv
  obtain ⟨rfl, hsz, hP, hK, hD0, hN⟩ := hv
  have hx := B.exec
  have hb := B.bytes
  have hr := B.returns
  have hts := atoms_spec (ws := k_O_common) B.pre
  have hw0 : ∀ w ∈ w0, w.before _ s = true := fun w h => hts w (List.mem_cons_of_mem _ h)
  have hown : s.vm.findClass R_O = some m.cls := findClass_of_methodNamed B.named
  have hlocks := B.notSynchronized
  subst hsz
  have hD := hD0.self (sz := s.heap.size)
  generalize hAe : va_A [(h0, .inr (7, [.int i_thrown, .int 0, .int i_lasts, v_buffer, .int i_size, .int 0, v_gone, v_first, v_many, v_lengths, v_authors, v_sums, v_row, v_made, .int i_madeSize, v_base, .int i_baseSize, v_text, .int i_textSize, .int i_textSteps, v_other, .int i_otherSize, v_piece, .int i_pieceSize, .int i_at, .int i_end, .int i_value]))] s.heap.size = A at hD ⊢
  have hA : ∀ q : Nat, s.heap.size ≤ q → A q := fun q h => by rw [← hAe]; exact Or.inr h
  have hS : va_S A s.heap s.heap [] := va_S.rf
  have hP : va_P (dC, dI) vwCl [(h0, .inr (7, [.int i_thrown, .int 0, .int i_lasts, v_buffer, .int i_size, .int 0, v_gone, v_first, v_many, v_lengths, v_authors, v_sums, v_row, v_made, .int i_madeSize, v_base, .int i_baseSize, v_text, .int i_textSize, .int i_textSteps, v_other, .int i_otherSize, v_piece, .int i_pieceSize, .int i_at, .int i_end, .int i_value]))] s.heap := hP
  have hl := lv_entry ([.ref h0, .int a1, .int a2, .int a3, .int a4]) (n := 8) (Nat.le_of_ble_eq_true rfl)
  rw [lg_entry_eq]
  generalize (lg_sl ([.ref h0, .int a1, .int a2, .int a3, .int a4]) ++ List.replicate (8 - (lg_sl ([.ref h0, .int a1, .int a2, .int a3, .int a4])).length) Slot.unset).toArray = ls at hl ⊢
  have hl : lv_has ls 8 [(0, .ref h0), (1, .int a1), (2, .int a2), (3, .int a3), (4, .int a4)] := hl
  refine lv_aload_n hx hb d_O_common_0 rfl (lv_at hl 0 rfl) ?_
  refine lv_iconst (v := 1) hx hb d_O_common_1 (by decide) ?_
  have hPc := hP.sub (ws' := [(h0, .inr (7, [.int i_thrown, .int 0, .int i_lasts, v_buffer, .int i_size, .int 0, v_gone, v_first, v_many, v_lengths, v_authors, v_sums, v_row, v_made, .int i_madeSize, v_base, .int i_baseSize, v_text, .int i_textSize, .int i_textSteps, v_other, .int i_otherSize, v_piece, .int i_pieceSize, .int i_at, .int i_end, .int i_value]))]) [0] rfl
  have hKc := hK.sub (tys' := []) [] rfl
  have hDc := hD.sub (ws' := [(h0, .inr (7, [.int i_thrown, .int 0, .int i_lasts, v_buffer, .int i_size, .int 0, v_gone, v_first, v_many, v_lengths, v_authors, v_sums, v_row, v_made, .int i_madeSize, v_base, .int i_baseSize, v_text, .int i_textSize, .int i_textSteps, v_other, .int i_otherSize, v_piece, .int i_pieceSize, .int i_at, .int i_end, .int i_value]))]) [0] (by decide) rfl
  have hFc := va_free (wc := [(h0, .inr (7, [.int i_thrown, .int 0, .int i_lasts, v_buffer, .int i_size, .int 0, v_gone, v_first, v_many, v_lengths, v_authors, v_sums, v_row, v_made, .int i_madeSize, v_base, .int i_baseSize, v_text, .int i_textSize, .int i_textSteps, v_other, .int i_otherSize, v_piece, .int i_pieceSize, .int i_at, .int i_end, .int i_value]))]) hD hS hA [0] rfl
  refine va_calli (va_runV (As := [.int 1]) (rest := []) ⟨hx, hb, hml, hown, hw0⟩ (m_runs l dC dI s.heap.size h0 i_thrown i_lasts v_buffer i_size 0 v_gone v_first v_many v_lengths v_authors v_sums v_row v_made i_madeSize v_base i_baseSize v_text i_textSize i_textSteps v_other i_otherSize v_piece i_pieceSize i_at i_end i_value 1) (cwV 1 hw0 (gd_V 176 177 178 173 179 rfl rfl rfl rfl rfl) rfl rfl rfl (by decide +kernel) ⟨by decide +kernel, by decide +kernel⟩) (prV_E hPc hKc hDc hN (va_recv hKc hPc (ci := 7) (q0 := 0) rfl rfl)) rfl rfl hl.1 rfl (lv_room (Nat.le_of_ble_eq_true rfl)) d_O_common_2 ⟨by decide +kernel, by decide +kernel⟩) hS (fun q _ h => hFc q h) hFc (fun r_1 u t H1 locs ht hvm hw hB hz1 hk1 hS => ?_)
  obtain ⟨hP1, hK1, hD1⟩ := hB
  rw [ht] at hP1
  have hK1 := va_K.moved hvm.symm hK1
  try dsimp only at hw
  obtain ⟨hP, hD⟩ := va_join (wr := []) (w1 := [(h0, .inr (7, [.int 0, .int 0, .int i_lasts, v_buffer, .int i_size, .int 0, v_gone, v_first, v_many, v_lengths, v_authors, v_sums, v_row, v_made, .int i_madeSize, v_base, .int i_baseSize, v_text, .int i_textSize, .int i_textSteps, v_other, .int i_otherSize, v_piece, .int i_pieceSize, .int i_at, .int i_end, .int i_value]))]) hP hD [0] [] rfl rfl (by decide) (by decide) hk1 hFc hP1 hD1
  generalize H1 = H at hP hS ⊢
  replace hP : va_P (dC, dI) vwCl [(h0, .inr (7, [.int 0, .int 0, .int i_lasts, v_buffer, .int i_size, .int 0, v_gone, v_first, v_many, v_lengths, v_authors, v_sums, v_row, v_made, .int i_madeSize, v_base, .int i_baseSize, v_text, .int i_textSize, .int i_textSteps, v_other, .int i_otherSize, v_piece, .int i_pieceSize, .int i_at, .int i_end, .int i_value]))] H := hP
  replace hD : va_D A [(h0, .inr (7, [.int 0, .int 0, .int i_lasts, v_buffer, .int i_size, .int 0, v_gone, v_first, v_many, v_lengths, v_authors, v_sums, v_row, v_made, .int i_madeSize, v_base, .int i_baseSize, v_text, .int i_textSize, .int i_textSteps, v_other, .int i_otherSize, v_piece, .int i_pieceSize, .int i_at, .int i_end, .int i_value]))] := hD
  replace hK : va_K (dC, dI) vwCl [] s := hK
  obtain rfl : r_1 = 1 := hw
  refine lv_if_eq (tgt := 37) hx hb d_O_common_5 (by decide) (fun h9 => absurd h9 (by decide +kernel)) (fun _ => ?_)
  refine lv_aload_n hx hb d_O_common_8 rfl (lv_at hl 0 rfl) ?_
  refine lv_iload_n hx hb d_O_common_9 rfl (lv_at hl 1 rfl) ?_
  refine lv_iload_n hx hb d_O_common_10 rfl (lv_at hl 2 rfl) ?_
  have hPc := hP.sub (ws' := [(h0, .inr (7, [.int 0, .int 0, .int i_lasts, v_buffer, .int i_size, .int 0, v_gone, v_first, v_many, v_lengths, v_authors, v_sums, v_row, v_made, .int i_madeSize, v_base, .int i_baseSize, v_text, .int i_textSize, .int i_textSteps, v_other, .int i_otherSize, v_piece, .int i_pieceSize, .int i_at, .int i_end, .int i_value]))]) [0] rfl
  have hKc := hK.sub (tys' := []) [] rfl
  refine ps_i (va_runV (As := [.int a1, .int a2]) (rest := []) ⟨hx, hb, hml, hown, hw0⟩ (m_isAsked l dC dI h0 0 0 i_lasts v_buffer i_size v_gone v_first v_many v_lengths v_authors v_sums v_row v_made i_madeSize v_base i_baseSize v_text i_textSize i_textSteps v_other i_otherSize v_piece i_pieceSize i_at i_end i_value a1 a2) (cwV 2 hw0 (gd_V 184 185 186 173 187 rfl rfl rfl rfl rfl) rfl rfl rfl (by decide +kernel) ⟨by decide +kernel, by decide +kernel⟩) (prV_R hPc hKc hN (va_recv hKc hPc (ci := 7) (q0 := 0) rfl rfl)) rfl rfl hl.1 rfl (lv_room (Nat.le_of_ble_eq_true rfl)) d_O_common_11 ⟨by decide +kernel, by decide +kernel⟩) (fun r_3 hr_3 => ?_)
  obtain rfl : r_3 = 0 := hr_3
  refine lv_if_eq (tgt := 37) hx hb d_O_common_14 (by decide) (fun _ => ?_) (fun h9 => absurd h9 (by decide +kernel))
  refine lv_aload_n hx hb d_O_common_37 rfl (lv_at hl 0 rfl) ?_
  refine va_get (D := (dC, dI)) (ci := 7) (v := .int 0) (C := R_O) (T := F_O) (N := 27) hx hb hw0 in_O hown hK hP 0 rfl rfl 0 (by decide) (hw0 (.fieldLink R_O 62 "TextKeeperModel" "thrown" "I") (List.mem_of_getElem? (i := 168) rfl)) (fun _ h9 => h9) rfl d_O_common_38 ?_
  refine lv_if_ne (tgt := 48) hx hb d_O_common_41 (by decide) (fun h9 => absurd h9 (by decide +kernel)) (fun _ => ?_)
  refine lv_iconst (v := (-1)) hx hb d_O_common_44 (by decide) ?_
  refine lv_goto (tgt := 49) hx hb d_O_common_45 (by decide) ?_
  have hP9 := hP.sub (ws' := [(h0, .inr (7, [.int 0, .int 0, .int i_lasts, v_buffer, .int i_size, .int 0, v_gone, v_first, v_many, v_lengths, v_authors, v_sums, v_row, v_made, .int i_madeSize, v_base, .int i_baseSize, v_text, .int i_textSize, .int i_textSteps, v_other, .int i_otherSize, v_piece, .int i_pieceSize, .int i_at, .int i_end, .int i_value]))]) [0] rfl
  have hD9 := hD.sub (ws' := [(h0, .inr (7, [.int 0, .int 0, .int i_lasts, v_buffer, .int i_size, .int 0, v_gone, v_first, v_many, v_lengths, v_authors, v_sums, v_row, v_made, .int i_madeSize, v_base, .int i_baseSize, v_text, .int i_textSize, .int i_textSteps, v_other, .int i_otherSize, v_piece, .int i_pieceSize, .int i_at, .int i_end, .int i_value]))]) [0] (by decide) rfl
  have hK9 := hK.sub (tys' := []) [] rfl
  exact W.iret (v := (-1)) hx hb hr (fun t ht hW => ⟨⟨(-1), (), rfl, rfl, by rw [ht]; exact hP9, va_K.moved hW.alike hK9, hD9⟩, hS.F ht⟩) hS.2.2 d_O_common_49
set_option maxHeartbeats 4000000 in
set_option maxRecDepth 100000 in
theorem m_about (l : Launch) (dC : Nat → ClassId) (dI : Nat → Nat → Nat) (sz : Nat) (h0 : Nat) (i_thrown : Int32) (i_lasts : Int32) (v_buffer : Value) (i_size : Int32) (v_gone : Value) (v_first : Value) (v_many : Value) (v_lengths : Value) (v_authors : Value) (v_sums : Value) (v_row : Value) (v_made : Value) (i_madeSize : Int32) (v_base : Value) (i_baseSize : Int32) (v_text : Value) (i_textSize : Int32) (i_textSteps : Int32) (v_other : Value) (i_otherSize : Int32) (v_piece : Value) (i_pieceSize : Int32) (i_at : Int32) (i_end : Int32) (i_value : Int32) (a1 : Int32) (a2 : Int32)  : Met l y_O_about k_O_about ({ frames := 1, cells := 0, slots := 0, locals := 21 } : Room) (va_Pc [.ref h0, .int a1, .int a2] (pc_E (dC, dI) [(h0, .inr (7, [.int i_thrown, .int 0, .int i_lasts, v_buffer, .int i_size, .int 0, v_gone, v_first, v_many, v_lengths, v_authors, v_sums, v_row, v_made, .int i_madeSize, v_base, .int i_baseSize, v_text, .int i_textSize, .int i_textSteps, v_other, .int i_otherSize, v_piece, .int i_pieceSize, .int i_at, .int i_end, .int i_value]))] [] sz)) (va_Qi (fun (r : Int32) (_ : Unit) => r = 0) (fun (_ : Unit) t => at_E (dC, dI) (va_A [(h0, .inr (7, [.int i_thrown, .int 0, .int i_lasts, v_buffer, .int i_size, .int 0, v_gone, v_first, v_many, v_lengths, v_authors, v_sums, v_row, v_made, .int i_madeSize, v_base, .int i_baseSize, v_text, .int i_textSize, .int i_textSteps, v_other, .int i_otherSize, v_piece, .int i_pieceSize, .int i_at, .int i_end, .int i_value]))] sz) [(h0, .inr (7, [.int 1, .int 0, .int i_lasts, v_buffer, .int i_size, .int 0, v_gone, v_first, v_many, v_lengths, v_authors, v_sums, v_row, v_made, .int i_madeSize, v_base, .int i_baseSize, v_text, .int i_textSize, .int i_textSteps, v_other, .int i_otherSize, v_piece, .int i_pieceSize, .int i_at, .int i_end, .int i_value]))] [] t) (va_A [(h0, .inr (7, [.int i_thrown, .int 0, .int i_lasts, v_buffer, .int i_size, .int 0, v_gone, v_first, v_many, v_lengths, v_authors, v_sums, v_row, v_made, .int i_madeSize, v_base, .int i_baseSize, v_text, .int i_textSize, .int i_textSteps, v_other, .int i_otherSize, v_piece, .int i_pieceSize, .int i_at, .int i_end, .int i_value]))] sz)) 0 0 (va_A [(h0, .inr (7, [.int i_thrown, .int 0, .int i_lasts, v_buffer, .int i_size, .int 0, v_gone, v_first, v_many, v_lengths, v_authors, v_sums, v_row, v_made, .int i_madeSize, v_base, .int i_baseSize, v_text, .int i_textSize, .int i_textSteps, v_other, .int i_otherSize, v_piece, .int i_pieceSize, .int i_at, .int i_end, .int i_value]))] sz) := by
  refine Met.ofW (cc := prog_9_method_33_code) (maxL := 3) (ret := (some .int)) (by decide) rfl ?_
  intro p e s m args below meth c s₁ B hml hv
  obtain ⟨rfl, hsz, hP, hK, hD0, hN⟩ := hv
  have hx := B.exec
  have hb := B.bytes
  have hr := B.returns
  have hts := atoms_spec (ws := k_O_about) B.pre
  have hw0 : ∀ w ∈ w0, w.before _ s = true := fun w h => hts w (List.mem_cons_of_mem _ h)
  have hown : s.vm.findClass R_O = some m.cls := findClass_of_methodNamed B.named
  have hlocks := B.notSynchronized
  subst hsz
  have hD := hD0.self (sz := s.heap.size)
  generalize hAe : va_A [(h0, .inr (7, [.int i_thrown, .int 0, .int i_lasts, v_buffer, .int i_size, .int 0, v_gone, v_first, v_many, v_lengths, v_authors, v_sums, v_row, v_made, .int i_madeSize, v_base, .int i_baseSize, v_text, .int i_textSize, .int i_textSteps, v_other, .int i_otherSize, v_piece, .int i_pieceSize, .int i_at, .int i_end, .int i_value]))] s.heap.size = A at hD ⊢
  have hA : ∀ q : Nat, s.heap.size ≤ q → A q := fun q h => by rw [← hAe]; exact Or.inr h
  have hS : va_S A s.heap s.heap [] := va_S.rf
  have hP : va_P (dC, dI) vwCl [(h0, .inr (7, [.int i_thrown, .int 0, .int i_lasts, v_buffer, .int i_size, .int 0, v_gone, v_first, v_many, v_lengths, v_authors, v_sums, v_row, v_made, .int i_madeSize, v_base, .int i_baseSize, v_text, .int i_textSize, .int i_textSteps, v_other, .int i_otherSize, v_piece, .int i_pieceSize, .int i_at, .int i_end, .int i_value]))] s.heap := hP
  have hl := lv_entry ([.ref h0, .int a1, .int a2]) (n := 3) (Nat.le_of_ble_eq_true rfl)
  rw [lg_entry_eq]
  generalize (lg_sl ([.ref h0, .int a1, .int a2]) ++ List.replicate (3 - (lg_sl ([.ref h0, .int a1, .int a2])).length) Slot.unset).toArray = ls at hl ⊢
  have hl : lv_has ls 3 [(0, .ref h0), (1, .int a1), (2, .int a2)] := hl
  refine lv_aload_n hx hb d_O_about_0 rfl (lv_at hl 0 rfl) ?_
  refine lv_iconst (v := 3) hx hb d_O_about_1 (by decide) ?_
  have hPc := hP.sub (ws' := [(h0, .inr (7, [.int i_thrown, .int 0, .int i_lasts, v_buffer, .int i_size, .int 0, v_gone, v_first, v_many, v_lengths, v_authors, v_sums, v_row, v_made, .int i_madeSize, v_base, .int i_baseSize, v_text, .int i_textSize, .int i_textSteps, v_other, .int i_otherSize, v_piece, .int i_pieceSize, .int i_at, .int i_end, .int i_value]))]) [0] rfl
  have hKc := hK.sub (tys' := []) [] rfl
  have hDc := hD.sub (ws' := [(h0, .inr (7, [.int i_thrown, .int 0, .int i_lasts, v_buffer, .int i_size, .int 0, v_gone, v_first, v_many, v_lengths, v_authors, v_sums, v_row, v_made, .int i_madeSize, v_base, .int i_baseSize, v_text, .int i_textSize, .int i_textSteps, v_other, .int i_otherSize, v_piece, .int i_pieceSize, .int i_at, .int i_end, .int i_value]))]) [0] (by decide) rfl
  have hFc := va_free (wc := [(h0, .inr (7, [.int i_thrown, .int 0, .int i_lasts, v_buffer, .int i_size, .int 0, v_gone, v_first, v_many, v_lengths, v_authors, v_sums, v_row, v_made, .int i_madeSize, v_base, .int i_baseSize, v_text, .int i_textSize, .int i_textSteps, v_other, .int i_otherSize, v_piece, .int i_pieceSize, .int i_at, .int i_end, .int i_value]))]) hD hS hA [0] rfl
  refine va_calli (va_runV (As := [.int 3]) (rest := []) ⟨hx, hb, hml, hown, hw0⟩ (m_runs l dC dI s.heap.size h0 i_thrown i_lasts v_buffer i_size 0 v_gone v_first v_many v_lengths v_authors v_sums v_row v_made i_madeSize v_base i_baseSize v_text i_textSize i_textSteps v_other i_otherSize v_piece i_pieceSize i_at i_end i_value 3) (cwV 1 hw0 (gd_V 176 177 178 173 179 rfl rfl rfl rfl rfl) rfl rfl rfl (by decide +kernel) ⟨by decide +kernel, by decide +kernel⟩) (prV_E hPc hKc hDc hN (va_recv hKc hPc (ci := 7) (q0 := 0) rfl rfl)) rfl rfl hl.1 rfl (lv_room (Nat.le_of_ble_eq_true rfl)) d_O_about_2 ⟨by decide +kernel, by decide +kernel⟩) hS (fun q _ h => hFc q h) hFc (fun r_1 u t H1 locs ht hvm hw hB hz1 hk1 hS => ?_)
  obtain ⟨hP1, hK1, hD1⟩ := hB
  rw [ht] at hP1
  have hK1 := va_K.moved hvm.symm hK1
  try dsimp only at hw
  obtain ⟨hP, hD⟩ := va_join (wr := []) (w1 := [(h0, .inr (7, [.int 0, .int 0, .int i_lasts, v_buffer, .int i_size, .int 0, v_gone, v_first, v_many, v_lengths, v_authors, v_sums, v_row, v_made, .int i_madeSize, v_base, .int i_baseSize, v_text, .int i_textSize, .int i_textSteps, v_other, .int i_otherSize, v_piece, .int i_pieceSize, .int i_at, .int i_end, .int i_value]))]) hP hD [0] [] rfl rfl (by decide) (by decide) hk1 hFc hP1 hD1
  generalize H1 = H at hP hS ⊢
  replace hP : va_P (dC, dI) vwCl [(h0, .inr (7, [.int 0, .int 0, .int i_lasts, v_buffer, .int i_size, .int 0, v_gone, v_first, v_many, v_lengths, v_authors, v_sums, v_row, v_made, .int i_madeSize, v_base, .int i_baseSize, v_text, .int i_textSize, .int i_textSteps, v_other, .int i_otherSize, v_piece, .int i_pieceSize, .int i_at, .int i_end, .int i_value]))] H := hP
  replace hD : va_D A [(h0, .inr (7, [.int 0, .int 0, .int i_lasts, v_buffer, .int i_size, .int 0, v_gone, v_first, v_many, v_lengths, v_authors, v_sums, v_row, v_made, .int i_madeSize, v_base, .int i_baseSize, v_text, .int i_textSize, .int i_textSteps, v_other, .int i_otherSize, v_piece, .int i_pieceSize, .int i_at, .int i_end, .int i_value]))] := hD
  replace hK : va_K (dC, dI) vwCl [] s := hK
  obtain rfl : r_1 = 1 := hw
  refine lv_if_ne (tgt := 10) hx hb d_O_about_5 (by decide) (fun _ => ?_) (fun h9 => absurd h9 (by decide +kernel))
  refine lv_aload_n hx hb d_O_about_10 rfl (lv_at hl 0 rfl) ?_
  refine lv_aload_n hx hb d_O_about_11 rfl (lv_at hl 0 rfl) ?_
  refine lv_iload_n hx hb d_O_about_12 rfl (lv_at hl 1 rfl) ?_
  have hPc := hP.sub (ws' := [(h0, .inr (7, [.int 0, .int 0, .int i_lasts, v_buffer, .int i_size, .int 0, v_gone, v_first, v_many, v_lengths, v_authors, v_sums, v_row, v_made, .int i_madeSize, v_base, .int i_baseSize, v_text, .int i_textSize, .int i_textSteps, v_other, .int i_otherSize, v_piece, .int i_pieceSize, .int i_at, .int i_end, .int i_value]))]) [0] rfl
  have hKc := hK.sub (tys' := []) [] rfl
  refine ps_i (va_runV (As := [.int a1]) (rest := [.ref h0]) ⟨hx, hb, hml, hown, hw0⟩ (m_isDocument l dC dI h0 0 0 i_lasts v_buffer i_size v_gone v_first v_many v_lengths v_authors v_sums v_row v_made i_madeSize v_base i_baseSize v_text i_textSize i_textSteps v_other i_otherSize v_piece i_pieceSize i_at i_end i_value a1) (cwV 1 hw0 (gd_V 170 171 172 173 174 rfl rfl rfl rfl rfl) rfl rfl rfl (by decide +kernel) ⟨by decide +kernel, by decide +kernel⟩) (prV_R hPc hKc hN (va_recv hKc hPc (ci := 7) (q0 := 0) rfl rfl)) rfl rfl hl.1 rfl (lv_room (Nat.le_of_ble_eq_true rfl)) d_O_about_13 ⟨by decide +kernel, by decide +kernel⟩) (fun r_3 hr_3 => ?_)
  obtain rfl : r_3 = 0 := hr_3
  refine lv_if_ne (tgt := 23) hx hb d_O_about_16 (by decide) (fun h9 => absurd h9 (by decide +kernel)) (fun _ => ?_)
  refine lv_iconst (v := 1) hx hb d_O_about_19 (by decide) ?_
  refine lv_goto (tgt := 37) hx hb d_O_about_20 (by decide) ?_
  refine va_put (D := (dC, dI)) (ci := 7) (v := .int 1) (ty := .int) (C := R_O) (T := F_O) (N := 27) hx hb hw0 in_O ft_O tk_O nk_O hown hK hP hD hS 0 rfl rfl 0 (by decide) (hw0 (.fieldLink R_O 62 "TextKeeperModel" "thrown" "I") (List.mem_of_getElem? (i := 168) rfl)) (fun _ h9 => h9) rfl (by decide +kernel) rfl rfl (Nat.le_of_ble_eq_true rfl) d_O_about_37 (fun H locs hP hD hS => ?_)
  replace hP : va_P (dC, dI) vwCl [(h0, .inr (7, [.int 1, .int 0, .int i_lasts, v_buffer, .int i_size, .int 0, v_gone, v_first, v_many, v_lengths, v_authors, v_sums, v_row, v_made, .int i_madeSize, v_base, .int i_baseSize, v_text, .int i_textSize, .int i_textSteps, v_other, .int i_otherSize, v_piece, .int i_pieceSize, .int i_at, .int i_end, .int i_value]))] H := hP
  replace hD : va_D A [(h0, .inr (7, [.int 1, .int 0, .int i_lasts, v_buffer, .int i_size, .int 0, v_gone, v_first, v_many, v_lengths, v_authors, v_sums, v_row, v_made, .int i_madeSize, v_base, .int i_baseSize, v_text, .int i_textSize, .int i_textSteps, v_other, .int i_otherSize, v_piece, .int i_pieceSize, .int i_at, .int i_end, .int i_value]))] := hD
  refine lv_aload_n hx hb d_O_about_40 rfl (lv_at hl 0 rfl) ?_
  refine va_get (D := (dC, dI)) (ci := 7) (v := .int 1) (C := R_O) (T := F_O) (N := 27) hx hb hw0 in_O hown hK hP 0 rfl rfl 0 (by decide) (hw0 (.fieldLink R_O 62 "TextKeeperModel" "thrown" "I") (List.mem_of_getElem? (i := 168) rfl)) (fun _ h9 => h9) rfl d_O_about_41 ?_
  refine lv_if_eq (tgt := 51) hx hb d_O_about_44 (by decide) (fun h9 => absurd h9 (by decide +kernel)) (fun _ => ?_)
  refine lv_iconst (v := 0) hx hb d_O_about_47 (by decide) ?_
  refine lv_goto (tgt := 85) hx hb d_O_about_48 (by decide) ?_
  have hP9 := hP.sub (ws' := [(h0, .inr (7, [.int 1, .int 0, .int i_lasts, v_buffer, .int i_size, .int 0, v_gone, v_first, v_many, v_lengths, v_authors, v_sums, v_row, v_made, .int i_madeSize, v_base, .int i_baseSize, v_text, .int i_textSize, .int i_textSteps, v_other, .int i_otherSize, v_piece, .int i_pieceSize, .int i_at, .int i_end, .int i_value]))]) [0] rfl
  have hD9 := hD.sub (ws' := [(h0, .inr (7, [.int 1, .int 0, .int i_lasts, v_buffer, .int i_size, .int 0, v_gone, v_first, v_many, v_lengths, v_authors, v_sums, v_row, v_made, .int i_madeSize, v_base, .int i_baseSize, v_text, .int i_textSize, .int i_textSteps, v_other, .int i_otherSize, v_piece, .int i_pieceSize, .int i_at, .int i_end, .int i_value]))]) [0] (by decide) rfl
  have hK9 := hK.sub (tys' := []) [] rfl
  exact W.iret (v := 0) hx hb hr (fun t ht hW => ⟨⟨0, (), rfl, rfl, by rw [ht]; exact hP9, va_K.moved hW.alike hK9, hD9⟩, hS.F ht⟩) hS.2.2 d_O_about_85
set_option maxHeartbeats 4000000 in
set_option maxRecDepth 100000 in
theorem m_revision (l : Launch) (dC : Nat → ClassId) (dI : Nat → Nat → Nat) (sz : Nat) (h0 : Nat) (i_thrown : Int32) (i_lasts : Int32) (v_buffer : Value) (i_size : Int32) (v_gone : Value) (v_first : Value) (v_many : Value) (v_lengths : Value) (v_authors : Value) (v_sums : Value) (v_row : Value) (v_made : Value) (i_madeSize : Int32) (v_base : Value) (i_baseSize : Int32) (v_text : Value) (i_textSize : Int32) (i_textSteps : Int32) (v_other : Value) (i_otherSize : Int32) (v_piece : Value) (i_pieceSize : Int32) (i_at : Int32) (i_end : Int32) (i_value : Int32) (a1 : Int32) (a2 : Int32) (a3 : Int32)  : Met l y_O_revision k_O_revision ({ frames := 2, cells := 0, slots := 0, locals := 43 } : Room) (va_Pc [.ref h0, .int a1, .int a2, .int a3] (pc_E (dC, dI) [(h0, .inr (7, [.int i_thrown, .int 0, .int i_lasts, v_buffer, .int i_size, .int 0, v_gone, v_first, v_many, v_lengths, v_authors, v_sums, v_row, v_made, .int i_madeSize, v_base, .int i_baseSize, v_text, .int i_textSize, .int i_textSteps, v_other, .int i_otherSize, v_piece, .int i_pieceSize, .int i_at, .int i_end, .int i_value]))] [] sz)) (va_Qi (fun (r : Int32) (_ : Unit) => r = 0) (fun (_ : Unit) t => at_E (dC, dI) (va_A [(h0, .inr (7, [.int i_thrown, .int 0, .int i_lasts, v_buffer, .int i_size, .int 0, v_gone, v_first, v_many, v_lengths, v_authors, v_sums, v_row, v_made, .int i_madeSize, v_base, .int i_baseSize, v_text, .int i_textSize, .int i_textSteps, v_other, .int i_otherSize, v_piece, .int i_pieceSize, .int i_at, .int i_end, .int i_value]))] sz) [(h0, .inr (7, [.int 1, .int 0, .int i_lasts, v_buffer, .int i_size, .int 0, v_gone, v_first, v_many, v_lengths, v_authors, v_sums, v_row, v_made, .int i_madeSize, v_base, .int i_baseSize, v_text, .int i_textSize, .int i_textSteps, v_other, .int i_otherSize, v_piece, .int i_pieceSize, .int i_at, .int i_end, .int i_value]))] [] t) (va_A [(h0, .inr (7, [.int i_thrown, .int 0, .int i_lasts, v_buffer, .int i_size, .int 0, v_gone, v_first, v_many, v_lengths, v_authors, v_sums, v_row, v_made, .int i_madeSize, v_base, .int i_baseSize, v_text, .int i_textSize, .int i_textSteps, v_other, .int i_otherSize, v_piece, .int i_pieceSize, .int i_at, .int i_end, .int i_value]))] sz)) 0 0 (va_A [(h0, .inr (7, [.int i_thrown, .int 0, .int i_lasts, v_buffer, .int i_size, .int 0, v_gone, v_first, v_many, v_lengths, v_authors, v_sums, v_row, v_made, .int i_madeSize, v_base, .int i_baseSize, v_text, .int i_textSize, .int i_textSteps, v_other, .int i_otherSize, v_piece, .int i_pieceSize, .int i_at, .int i_end, .int i_value]))] sz) := by
  refine Met.ofW (cc := prog_9_method_34_code) (maxL := 5) (ret := (some .int)) (by decide) rfl ?_
  intro p e s m args below meth c s₁ B hml hv
  obtain ⟨rfl, hsz, hP, hK, hD0, hN⟩ := hv
  have hx := B.exec
  have hb := B.bytes
  have hr := B.returns
  have hts := atoms_spec (ws := k_O_revision) B.pre
  have hw0 : ∀ w ∈ w0, w.before _ s = true := fun w h => hts w (List.mem_cons_of_mem _ h)
  have hown : s.vm.findClass R_O = some m.cls := findClass_of_methodNamed B.named
  have hlocks := B.notSynchronized
  subst hsz
  have hD := hD0.self (sz := s.heap.size)
  generalize hAe : va_A [(h0, .inr (7, [.int i_thrown, .int 0, .int i_lasts, v_buffer, .int i_size, .int 0, v_gone, v_first, v_many, v_lengths, v_authors, v_sums, v_row, v_made, .int i_madeSize, v_base, .int i_baseSize, v_text, .int i_textSize, .int i_textSteps, v_other, .int i_otherSize, v_piece, .int i_pieceSize, .int i_at, .int i_end, .int i_value]))] s.heap.size = A at hD ⊢
  have hA : ∀ q : Nat, s.heap.size ≤ q → A q := fun q h => by rw [← hAe]; exact Or.inr h
  have hS : va_S A s.heap s.heap [] := va_S.rf
  have hP : va_P (dC, dI) vwCl [(h0, .inr (7, [.int i_thrown, .int 0, .int i_lasts, v_buffer, .int i_size, .int 0, v_gone, v_first, v_many, v_lengths, v_authors, v_sums, v_row, v_made, .int i_madeSize, v_base, .int i_baseSize, v_text, .int i_textSize, .int i_textSteps, v_other, .int i_otherSize, v_piece, .int i_pieceSize, .int i_at, .int i_end, .int i_value]))] s.heap := hP
  have hl := lv_entry ([.ref h0, .int a1, .int a2, .int a3]) (n := 5) (Nat.le_of_ble_eq_true rfl)
  rw [lg_entry_eq]
  generalize (lg_sl ([.ref h0, .int a1, .int a2, .int a3]) ++ List.replicate (5 - (lg_sl ([.ref h0, .int a1, .int a2, .int a3])).length) Slot.unset).toArray = ls at hl ⊢
  have hl : lv_has ls 5 [(0, .ref h0), (1, .int a1), (2, .int a2), (3, .int a3)] := hl
  refine lv_aload_n hx hb d_O_revision_0 rfl (lv_at hl 0 rfl) ?_
  refine lv_iconst (v := 3) hx hb d_O_revision_1 (by decide) ?_
  have hPc := hP.sub (ws' := [(h0, .inr (7, [.int i_thrown, .int 0, .int i_lasts, v_buffer, .int i_size, .int 0, v_gone, v_first, v_many, v_lengths, v_authors, v_sums, v_row, v_made, .int i_madeSize, v_base, .int i_baseSize, v_text, .int i_textSize, .int i_textSteps, v_other, .int i_otherSize, v_piece, .int i_pieceSize, .int i_at, .int i_end, .int i_value]))]) [0] rfl
  have hKc := hK.sub (tys' := []) [] rfl
  have hDc := hD.sub (ws' := [(h0, .inr (7, [.int i_thrown, .int 0, .int i_lasts, v_buffer, .int i_size, .int 0, v_gone, v_first, v_many, v_lengths, v_authors, v_sums, v_row, v_made, .int i_madeSize, v_base, .int i_baseSize, v_text, .int i_textSize, .int i_textSteps, v_other, .int i_otherSize, v_piece, .int i_pieceSize, .int i_at, .int i_end, .int i_value]))]) [0] (by decide) rfl
  have hFc := va_free (wc := [(h0, .inr (7, [.int i_thrown, .int 0, .int i_lasts, v_buffer, .int i_size, .int 0, v_gone, v_first, v_many, v_lengths, v_authors, v_sums, v_row, v_made, .int i_madeSize, v_base, .int i_baseSize, v_text, .int i_textSize, .int i_textSteps, v_other, .int i_otherSize, v_piece, .int i_pieceSize, .int i_at, .int i_end, .int i_value]))]) hD hS hA [0] rfl
  refine va_calli (va_runV (As := [.int 3]) (rest := []) ⟨hx, hb, hml, hown, hw0⟩ (m_runs l dC dI s.heap.size h0 i_thrown i_lasts v_buffer i_size 0 v_gone v_first v_many v_lengths v_authors v_sums v_row v_made i_madeSize v_base i_baseSize v_text i_textSize i_textSteps v_other i_otherSize v_piece i_pieceSize i_at i_end i_value 3) (cwV 1 hw0 (gd_V 176 177 178 173 179 rfl rfl rfl rfl rfl) rfl rfl rfl (by decide +kernel) ⟨by decide +kernel, by decide +kernel⟩) (prV_E hPc hKc hDc hN (va_recv hKc hPc (ci := 7) (q0 := 0) rfl rfl)) rfl rfl hl.1 rfl (lv_room (Nat.le_of_ble_eq_true rfl)) d_O_revision_2 ⟨by decide +kernel, by decide +kernel⟩) hS (fun q _ h => hFc q h) hFc (fun r_1 u t H1 locs ht hvm hw hB hz1 hk1 hS => ?_)
  obtain ⟨hP1, hK1, hD1⟩ := hB
  rw [ht] at hP1
  have hK1 := va_K.moved hvm.symm hK1
  try dsimp only at hw
  obtain ⟨hP, hD⟩ := va_join (wr := []) (w1 := [(h0, .inr (7, [.int 0, .int 0, .int i_lasts, v_buffer, .int i_size, .int 0, v_gone, v_first, v_many, v_lengths, v_authors, v_sums, v_row, v_made, .int i_madeSize, v_base, .int i_baseSize, v_text, .int i_textSize, .int i_textSteps, v_other, .int i_otherSize, v_piece, .int i_pieceSize, .int i_at, .int i_end, .int i_value]))]) hP hD [0] [] rfl rfl (by decide) (by decide) hk1 hFc hP1 hD1
  generalize H1 = H at hP hS ⊢
  replace hP : va_P (dC, dI) vwCl [(h0, .inr (7, [.int 0, .int 0, .int i_lasts, v_buffer, .int i_size, .int 0, v_gone, v_first, v_many, v_lengths, v_authors, v_sums, v_row, v_made, .int i_madeSize, v_base, .int i_baseSize, v_text, .int i_textSize, .int i_textSteps, v_other, .int i_otherSize, v_piece, .int i_pieceSize, .int i_at, .int i_end, .int i_value]))] H := hP
  replace hD : va_D A [(h0, .inr (7, [.int 0, .int 0, .int i_lasts, v_buffer, .int i_size, .int 0, v_gone, v_first, v_many, v_lengths, v_authors, v_sums, v_row, v_made, .int i_madeSize, v_base, .int i_baseSize, v_text, .int i_textSize, .int i_textSteps, v_other, .int i_otherSize, v_piece, .int i_pieceSize, .int i_at, .int i_end, .int i_value]))] := hD
  replace hK : va_K (dC, dI) vwCl [] s := hK
  obtain rfl : r_1 = 1 := hw
  refine lv_if_ne (tgt := 10) hx hb d_O_revision_5 (by decide) (fun _ => ?_) (fun h9 => absurd h9 (by decide +kernel))
  refine lv_aload_n hx hb d_O_revision_10 rfl (lv_at hl 0 rfl) ?_
  refine lv_iload_n hx hb d_O_revision_11 rfl (lv_at hl 1 rfl) ?_
  refine lv_iload_n hx hb d_O_revision_12 rfl (lv_at hl 2 rfl) ?_
  have hPc := hP.sub (ws' := [(h0, .inr (7, [.int 0, .int 0, .int i_lasts, v_buffer, .int i_size, .int 0, v_gone, v_first, v_many, v_lengths, v_authors, v_sums, v_row, v_made, .int i_madeSize, v_base, .int i_baseSize, v_text, .int i_textSize, .int i_textSteps, v_other, .int i_otherSize, v_piece, .int i_pieceSize, .int i_at, .int i_end, .int i_value]))]) [0] rfl
  have hKc := hK.sub (tys' := []) [] rfl
  refine ps_i (va_runV (As := [.int a1, .int a2]) (rest := []) ⟨hx, hb, hml, hown, hw0⟩ (m_kept l dC dI h0 0 0 i_lasts v_buffer i_size v_gone v_first v_many v_lengths v_authors v_sums v_row v_made i_madeSize v_base i_baseSize v_text i_textSize i_textSteps v_other i_otherSize v_piece i_pieceSize i_at i_end i_value a1 a2) (cwV 2 hw0 (gd_V 188 189 190 173 191 rfl rfl rfl rfl rfl) rfl rfl rfl (by decide +kernel) ⟨by decide +kernel, by decide +kernel⟩) (prV_R hPc hKc hN (va_recv hKc hPc (ci := 7) (q0 := 0) rfl rfl)) rfl rfl hl.1 rfl (lv_room (Nat.le_of_ble_eq_true rfl)) d_O_revision_13 ⟨by decide +kernel, by decide +kernel⟩) (fun r_3 hr_3 => ?_)
  obtain rfl : r_3 = (-1) := hr_3
  refine lv_istore (lv' := [(4, .int (-1)), (0, .ref h0), (1, .int a1), (2, .int a2), (3, .int a3)]) hx hb d_O_revision_16 hl (by decide) rfl (fun ls hl => ?_)
  refine lv_aload_n hx hb d_O_revision_18 rfl (lv_at hl 1 rfl) ?_
  refine lv_iload hx hb d_O_revision_19 (lv_at hl 0 rfl) ?_
  refine lv_iconst (v := (-1)) hx hb d_O_revision_21 (by decide) ?_
  refine lv_icmp_eq (tgt := 39) hx hb d_O_revision_22 (by decide) (fun _ => ?_) (fun h9 => absurd h9 (by decide +kernel))
  refine lv_iconst (v := 1) hx hb d_O_revision_39 (by decide) ?_
  refine lv_goto (tgt := 57) hx hb d_O_revision_40 (by decide) ?_
  refine va_put (D := (dC, dI)) (ci := 7) (v := .int 1) (ty := .int) (C := R_O) (T := F_O) (N := 27) hx hb hw0 in_O ft_O tk_O nk_O hown hK hP hD hS 0 rfl rfl 0 (by decide) (hw0 (.fieldLink R_O 62 "TextKeeperModel" "thrown" "I") (List.mem_of_getElem? (i := 168) rfl)) (fun _ h9 => h9) rfl (by decide +kernel) rfl rfl (Nat.le_of_ble_eq_true rfl) d_O_revision_57 (fun H locs hP hD hS => ?_)
  replace hP : va_P (dC, dI) vwCl [(h0, .inr (7, [.int 1, .int 0, .int i_lasts, v_buffer, .int i_size, .int 0, v_gone, v_first, v_many, v_lengths, v_authors, v_sums, v_row, v_made, .int i_madeSize, v_base, .int i_baseSize, v_text, .int i_textSize, .int i_textSteps, v_other, .int i_otherSize, v_piece, .int i_pieceSize, .int i_at, .int i_end, .int i_value]))] H := hP
  replace hD : va_D A [(h0, .inr (7, [.int 1, .int 0, .int i_lasts, v_buffer, .int i_size, .int 0, v_gone, v_first, v_many, v_lengths, v_authors, v_sums, v_row, v_made, .int i_madeSize, v_base, .int i_baseSize, v_text, .int i_textSize, .int i_textSteps, v_other, .int i_otherSize, v_piece, .int i_pieceSize, .int i_at, .int i_end, .int i_value]))] := hD
  refine lv_aload_n hx hb d_O_revision_60 rfl (lv_at hl 1 rfl) ?_
  refine va_get (D := (dC, dI)) (ci := 7) (v := .int 1) (C := R_O) (T := F_O) (N := 27) hx hb hw0 in_O hown hK hP 0 rfl rfl 0 (by decide) (hw0 (.fieldLink R_O 62 "TextKeeperModel" "thrown" "I") (List.mem_of_getElem? (i := 168) rfl)) (fun _ h9 => h9) rfl d_O_revision_61 ?_
  refine lv_if_eq (tgt := 71) hx hb d_O_revision_64 (by decide) (fun h9 => absurd h9 (by decide +kernel)) (fun _ => ?_)
  refine lv_iconst (v := 0) hx hb d_O_revision_67 (by decide) ?_
  refine lv_goto (tgt := 107) hx hb d_O_revision_68 (by decide) ?_
  have hP9 := hP.sub (ws' := [(h0, .inr (7, [.int 1, .int 0, .int i_lasts, v_buffer, .int i_size, .int 0, v_gone, v_first, v_many, v_lengths, v_authors, v_sums, v_row, v_made, .int i_madeSize, v_base, .int i_baseSize, v_text, .int i_textSize, .int i_textSteps, v_other, .int i_otherSize, v_piece, .int i_pieceSize, .int i_at, .int i_end, .int i_value]))]) [0] rfl
  have hD9 := hD.sub (ws' := [(h0, .inr (7, [.int 1, .int 0, .int i_lasts, v_buffer, .int i_size, .int 0, v_gone, v_first, v_many, v_lengths, v_authors, v_sums, v_row, v_made, .int i_madeSize, v_base, .int i_baseSize, v_text, .int i_textSize, .int i_textSteps, v_other, .int i_otherSize, v_piece, .int i_pieceSize, .int i_at, .int i_end, .int i_value]))]) [0] (by decide) rfl
  have hK9 := hK.sub (tys' := []) [] rfl
  exact W.iret (v := 0) hx hb hr (fun t ht hW => ⟨⟨0, (), rfl, rfl, by rw [ht]; exact hP9, va_K.moved hW.alike hK9, hD9⟩, hS.F ht⟩) hS.2.2 d_O_revision_107
set_option maxHeartbeats 4000000 in
set_option maxRecDepth 100000 in
theorem m_out (l : Launch) (dC : Nat → ClassId) (dI : Nat → Nat → Nat) (sz : Nat) (h0 : Nat) (i_thrown : Int32) (i_lasts : Int32) (v_buffer : Value) (i_size : Int32) (i_documents : Int32) (v_gone : Value) (v_first : Value) (v_many : Value) (v_lengths : Value) (v_authors : Value) (v_sums : Value) (v_row : Value) (v_made : Value) (i_madeSize : Int32) (v_base : Value) (i_baseSize : Int32) (v_text : Value) (i_textSteps : Int32) (v_other : Value) (i_otherSize : Int32) (v_piece : Value) (i_pieceSize : Int32) (i_at : Int32) (i_end : Int32) (i_value : Int32) (a1 : Int32)  : Met l y_O_out k_O_out ({ frames := 1, cells := 0, slots := 0, locals := 21 } : Room) (va_Pc [.ref h0, .int a1] (pc_E (dC, dI) [(h0, .inr (7, [.int i_thrown, .int 0, .int i_lasts, v_buffer, .int i_size, .int i_documents, v_gone, v_first, v_many, v_lengths, v_authors, v_sums, v_row, v_made, .int i_madeSize, v_base, .int i_baseSize, v_text, .int (-1), .int i_textSteps, v_other, .int i_otherSize, v_piece, .int i_pieceSize, .int i_at, .int i_end, .int i_value]))] [] sz)) (va_Qi (fun (r : Int32) (_ : Unit) => r = (-1)) (fun (_ : Unit) t => at_E (dC, dI) (va_A [(h0, .inr (7, [.int i_thrown, .int 0, .int i_lasts, v_buffer, .int i_size, .int i_documents, v_gone, v_first, v_many, v_lengths, v_authors, v_sums, v_row, v_made, .int i_madeSize, v_base, .int i_baseSize, v_text, .int (-1), .int i_textSteps, v_other, .int i_otherSize, v_piece, .int i_pieceSize, .int i_at, .int i_end, .int i_value]))] sz) [(h0, .inr (7, [.int 0, .int 0, .int i_lasts, v_buffer, .int i_size, .int i_documents, v_gone, v_first, v_many, v_lengths, v_authors, v_sums, v_row, v_made, .int i_madeSize, v_base, .int i_baseSize, v_text, .int (-1), .int i_textSteps, v_other, .int i_otherSize, v_piece, .int i_pieceSize, .int i_at, .int i_end, .int i_value]))] [] t) (va_A [(h0, .inr (7, [.int i_thrown, .int 0, .int i_lasts, v_buffer, .int i_size, .int i_documents, v_gone, v_first, v_many, v_lengths, v_authors, v_sums, v_row, v_made, .int i_madeSize, v_base, .int i_baseSize, v_text, .int (-1), .int i_textSteps, v_other, .int i_otherSize, v_piece, .int i_pieceSize, .int i_at, .int i_end, .int i_value]))] sz)) 0 0 (va_A [(h0, .inr (7, [.int i_thrown, .int 0, .int i_lasts, v_buffer, .int i_size, .int i_documents, v_gone, v_first, v_many, v_lengths, v_authors, v_sums, v_row, v_made, .int i_madeSize, v_base, .int i_baseSize, v_text, .int (-1), .int i_textSteps, v_other, .int i_otherSize, v_piece, .int i_pieceSize, .int i_at, .int i_end, .int i_value]))] sz) := by
  refine Met.ofW (cc := prog_9_method_29_code) (maxL := 2) (ret := (some .int)) (by decide) rfl ?_
  intro p e s m args below meth c s₁ B hml hv
  obtain ⟨rfl, hsz, hP, hK, hD0, hN⟩ := hv
  have hx := B.exec
  have hb := B.bytes
  have hr := B.returns
  have hts := atoms_spec (ws := k_O_out) B.pre
  have hw0 : ∀ w ∈ w0, w.before _ s = true := fun w h => hts w (List.mem_cons_of_mem _ h)
  have hown : s.vm.findClass R_O = some m.cls := findClass_of_methodNamed B.named
  have hlocks := B.notSynchronized
  subst hsz
  have hD := hD0.self (sz := s.heap.size)
  generalize hAe : va_A [(h0, .inr (7, [.int i_thrown, .int 0, .int i_lasts, v_buffer, .int i_size, .int i_documents, v_gone, v_first, v_many, v_lengths, v_authors, v_sums, v_row, v_made, .int i_madeSize, v_base, .int i_baseSize, v_text, .int (-1), .int i_textSteps, v_other, .int i_otherSize, v_piece, .int i_pieceSize, .int i_at, .int i_end, .int i_value]))] s.heap.size = A at hD ⊢
  have hA : ∀ q : Nat, s.heap.size ≤ q → A q := fun q h => by rw [← hAe]; exact Or.inr h
  have hS : va_S A s.heap s.heap [] := va_S.rf
  have hP : va_P (dC, dI) vwCl [(h0, .inr (7, [.int i_thrown, .int 0, .int i_lasts, v_buffer, .int i_size, .int i_documents, v_gone, v_first, v_many, v_lengths, v_authors, v_sums, v_row, v_made, .int i_madeSize, v_base, .int i_baseSize, v_text, .int (-1), .int i_textSteps, v_other, .int i_otherSize, v_piece, .int i_pieceSize, .int i_at, .int i_end, .int i_value]))] s.heap := hP
  have hl := lv_entry ([.ref h0, .int a1]) (n := 2) (Nat.le_of_ble_eq_true rfl)
  rw [lg_entry_eq]
  generalize (lg_sl ([.ref h0, .int a1]) ++ List.replicate (2 - (lg_sl ([.ref h0, .int a1])).length) Slot.unset).toArray = ls at hl ⊢
  have hl : lv_has ls 2 [(0, .ref h0), (1, .int a1)] := hl
  refine lv_aload_n hx hb d_O_out_0 rfl (lv_at hl 0 rfl) ?_
  refine lv_iconst (v := 1) hx hb d_O_out_1 (by decide) ?_
  have hPc := hP.sub (ws' := [(h0, .inr (7, [.int i_thrown, .int 0, .int i_lasts, v_buffer, .int i_size, .int i_documents, v_gone, v_first, v_many, v_lengths, v_authors, v_sums, v_row, v_made, .int i_madeSize, v_base, .int i_baseSize, v_text, .int (-1), .int i_textSteps, v_other, .int i_otherSize, v_piece, .int i_pieceSize, .int i_at, .int i_end, .int i_value]))]) [0] rfl
  have hKc := hK.sub (tys' := []) [] rfl
  have hDc := hD.sub (ws' := [(h0, .inr (7, [.int i_thrown, .int 0, .int i_lasts, v_buffer, .int i_size, .int i_documents, v_gone, v_first, v_many, v_lengths, v_authors, v_sums, v_row, v_made, .int i_madeSize, v_base, .int i_baseSize, v_text, .int (-1), .int i_textSteps, v_other, .int i_otherSize, v_piece, .int i_pieceSize, .int i_at, .int i_end, .int i_value]))]) [0] (by decide) rfl
  have hFc := va_free (wc := [(h0, .inr (7, [.int i_thrown, .int 0, .int i_lasts, v_buffer, .int i_size, .int i_documents, v_gone, v_first, v_many, v_lengths, v_authors, v_sums, v_row, v_made, .int i_madeSize, v_base, .int i_baseSize, v_text, .int (-1), .int i_textSteps, v_other, .int i_otherSize, v_piece, .int i_pieceSize, .int i_at, .int i_end, .int i_value]))]) hD hS hA [0] rfl
  refine va_calli (va_runV (As := [.int 1]) (rest := []) ⟨hx, hb, hml, hown, hw0⟩ (m_runs l dC dI s.heap.size h0 i_thrown i_lasts v_buffer i_size i_documents v_gone v_first v_many v_lengths v_authors v_sums v_row v_made i_madeSize v_base i_baseSize v_text (-1) i_textSteps v_other i_otherSize v_piece i_pieceSize i_at i_end i_value 1) (cwV 1 hw0 (gd_V 176 177 178 173 179 rfl rfl rfl rfl rfl) rfl rfl rfl (by decide +kernel) ⟨by decide +kernel, by decide +kernel⟩) (prV_E hPc hKc hDc hN (va_recv hKc hPc (ci := 7) (q0 := 0) rfl rfl)) rfl rfl hl.1 rfl (lv_room (Nat.le_of_ble_eq_true rfl)) d_O_out_2 ⟨by decide +kernel, by decide +kernel⟩) hS (fun q _ h => hFc q h) hFc (fun r_1 u t H1 locs ht hvm hw hB hz1 hk1 hS => ?_)
  obtain ⟨hP1, hK1, hD1⟩ := hB
  rw [ht] at hP1
  have hK1 := va_K.moved hvm.symm hK1
  try dsimp only at hw
  obtain ⟨hP, hD⟩ := va_join (wr := []) (w1 := [(h0, .inr (7, [.int 0, .int 0, .int i_lasts, v_buffer, .int i_size, .int i_documents, v_gone, v_first, v_many, v_lengths, v_authors, v_sums, v_row, v_made, .int i_madeSize, v_base, .int i_baseSize, v_text, .int (-1), .int i_textSteps, v_other, .int i_otherSize, v_piece, .int i_pieceSize, .int i_at, .int i_end, .int i_value]))]) hP hD [0] [] rfl rfl (by decide) (by decide) hk1 hFc hP1 hD1
  generalize H1 = H at hP hS ⊢
  replace hP : va_P (dC, dI) vwCl [(h0, .inr (7, [.int 0, .int 0, .int i_lasts, v_buffer, .int i_size, .int i_documents, v_gone, v_first, v_many, v_lengths, v_authors, v_sums, v_row, v_made, .int i_madeSize, v_base, .int i_baseSize, v_text, .int (-1), .int i_textSteps, v_other, .int i_otherSize, v_piece, .int i_pieceSize, .int i_at, .int i_end, .int i_value]))] H := hP
  replace hD : va_D A [(h0, .inr (7, [.int 0, .int 0, .int i_lasts, v_buffer, .int i_size, .int i_documents, v_gone, v_first, v_many, v_lengths, v_authors, v_sums, v_row, v_made, .int i_madeSize, v_base, .int i_baseSize, v_text, .int (-1), .int i_textSteps, v_other, .int i_otherSize, v_piece, .int i_pieceSize, .int i_at, .int i_end, .int i_value]))] := hD
  replace hK : va_K (dC, dI) vwCl [] s := hK
  obtain rfl : r_1 = 1 := hw
  refine lv_if_ne (tgt := 10) hx hb d_O_out_5 (by decide) (fun _ => ?_) (fun h9 => absurd h9 (by decide +kernel))
  refine lv_iload_n hx hb d_O_out_10 rfl (lv_at hl 1 rfl) ?_
  refine lv_if_lt (tgt := 35) hx hb d_O_out_11 (by decide) (fun c_3 => ?_) (fun c_3 => ?_)
  · refine lv_iconst (v := (-1)) hx hb d_O_out_35 (by decide) ?_
    have hP9 := hP.sub (ws' := [(h0, .inr (7, [.int 0, .int 0, .int i_lasts, v_buffer, .int i_size, .int i_documents, v_gone, v_first, v_many, v_lengths, v_authors, v_sums, v_row, v_made, .int i_madeSize, v_base, .int i_baseSize, v_text, .int (-1), .int i_textSteps, v_other, .int i_otherSize, v_piece, .int i_pieceSize, .int i_at, .int i_end, .int i_value]))]) [0] rfl
    have hD9 := hD.sub (ws' := [(h0, .inr (7, [.int 0, .int 0, .int i_lasts, v_buffer, .int i_size, .int i_documents, v_gone, v_first, v_many, v_lengths, v_authors, v_sums, v_row, v_made, .int i_madeSize, v_base, .int i_baseSize, v_text, .int (-1), .int i_textSteps, v_other, .int i_otherSize, v_piece, .int i_pieceSize, .int i_at, .int i_end, .int i_value]))]) [0] (by decide) rfl
    have hK9 := hK.sub (tys' := []) [] rfl
    exact W.iret (v := (-1)) hx hb hr (fun t ht hW => ⟨⟨(-1), (), rfl, rfl, by rw [ht]; exact hP9, va_K.moved hW.alike hK9, hD9⟩, hS.F ht⟩) hS.2.2 d_O_out_36
  · refine lv_iload_n hx hb d_O_out_14 rfl (lv_at hl 1 rfl) ?_
    refine lv_aload_n hx hb d_O_out_15 rfl (lv_at hl 0 rfl) ?_
    refine va_get (D := (dC, dI)) (ci := 7) (v := .int (-1)) (C := R_O) (T := F_O) (N := 27) hx hb hw0 in_O hown hK hP 0 rfl rfl 18 (by decide) (hw0 (.fieldLink R_O 50 "TextKeeperModel" "textSize" "I") (List.mem_of_getElem? (i := 192) rfl)) (fun _ h9 => h9) rfl d_O_out_16 ?_
    refine lv_icmp_ge (tgt := 35) hx hb d_O_out_19 (by decide) (fun c_4 => ?_) (fun c_4 => (x_m1 c_3 c_4).elim)
    refine lv_iconst (v := (-1)) hx hb d_O_out_35 (by decide) ?_
    have hP9 := hP.sub (ws' := [(h0, .inr (7, [.int 0, .int 0, .int i_lasts, v_buffer, .int i_size, .int i_documents, v_gone, v_first, v_many, v_lengths, v_authors, v_sums, v_row, v_made, .int i_madeSize, v_base, .int i_baseSize, v_text, .int (-1), .int i_textSteps, v_other, .int i_otherSize, v_piece, .int i_pieceSize, .int i_at, .int i_end, .int i_value]))]) [0] rfl
    have hD9 := hD.sub (ws' := [(h0, .inr (7, [.int 0, .int 0, .int i_lasts, v_buffer, .int i_size, .int i_documents, v_gone, v_first, v_many, v_lengths, v_authors, v_sums, v_row, v_made, .int i_madeSize, v_base, .int i_baseSize, v_text, .int (-1), .int i_textSteps, v_other, .int i_otherSize, v_piece, .int i_pieceSize, .int i_at, .int i_end, .int i_value]))]) [0] (by decide) rfl
    have hK9 := hK.sub (tys' := []) [] rfl
    exact W.iret (v := (-1)) hx hb hr (fun t ht hW => ⟨⟨(-1), (), rfl, rfl, by rw [ht]; exact hP9, va_K.moved hW.alike hK9, hD9⟩, hS.F ht⟩) hS.2.2 d_O_out_36
set_option maxHeartbeats 4000000 in
set_option maxRecDepth 100000 in
theorem m_steps (l : Launch) (dC : Nat → ClassId) (dI : Nat → Nat → Nat) (sz : Nat) (h0 : Nat) (i_thrown : Int32) (i_lasts : Int32) (v_buffer : Value) (i_size : Int32) (i_documents : Int32) (v_gone : Value) (v_first : Value) (v_many : Value) (v_lengths : Value) (v_authors : Value) (v_sums : Value) (v_row : Value) (v_made : Value) (i_madeSize : Int32) (v_base : Value) (i_baseSize : Int32) (v_text : Value) (i_textSize : Int32) (v_other : Value) (i_otherSize : Int32) (v_piece : Value) (i_pieceSize : Int32) (i_at : Int32) (i_end : Int32) (i_value : Int32)  : Met l y_O_steps k_O_steps ({ frames := 1, cells := 0, slots := 0, locals := 21 } : Room) (va_Pc [.ref h0] (pc_E (dC, dI) [(h0, .inr (7, [.int i_thrown, .int 0, .int i_lasts, v_buffer, .int i_size, .int i_documents, v_gone, v_first, v_many, v_lengths, v_authors, v_sums, v_row, v_made, .int i_madeSize, v_base, .int i_baseSize, v_text, .int i_textSize, .int (-1), v_other, .int i_otherSize, v_piece, .int i_pieceSize, .int i_at, .int i_end, .int i_value]))] [] sz)) (va_Qi (fun (r : Int32) (_ : Unit) => r = (-1)) (fun (_ : Unit) t => at_E (dC, dI) (va_A [(h0, .inr (7, [.int i_thrown, .int 0, .int i_lasts, v_buffer, .int i_size, .int i_documents, v_gone, v_first, v_many, v_lengths, v_authors, v_sums, v_row, v_made, .int i_madeSize, v_base, .int i_baseSize, v_text, .int i_textSize, .int (-1), v_other, .int i_otherSize, v_piece, .int i_pieceSize, .int i_at, .int i_end, .int i_value]))] sz) [(h0, .inr (7, [.int 0, .int 0, .int i_lasts, v_buffer, .int i_size, .int i_documents, v_gone, v_first, v_many, v_lengths, v_authors, v_sums, v_row, v_made, .int i_madeSize, v_base, .int i_baseSize, v_text, .int i_textSize, .int (-1), v_other, .int i_otherSize, v_piece, .int i_pieceSize, .int i_at, .int i_end, .int i_value]))] [] t) (va_A [(h0, .inr (7, [.int i_thrown, .int 0, .int i_lasts, v_buffer, .int i_size, .int i_documents, v_gone, v_first, v_many, v_lengths, v_authors, v_sums, v_row, v_made, .int i_madeSize, v_base, .int i_baseSize, v_text, .int i_textSize, .int (-1), v_other, .int i_otherSize, v_piece, .int i_pieceSize, .int i_at, .int i_end, .int i_value]))] sz)) 0 0 (va_A [(h0, .inr (7, [.int i_thrown, .int 0, .int i_lasts, v_buffer, .int i_size, .int i_documents, v_gone, v_first, v_many, v_lengths, v_authors, v_sums, v_row, v_made, .int i_madeSize, v_base, .int i_baseSize, v_text, .int i_textSize, .int (-1), v_other, .int i_otherSize, v_piece, .int i_pieceSize, .int i_at, .int i_end, .int i_value]))] sz) := by
  refine Met.ofW (cc := prog_9_method_30_code) (maxL := 1) (ret := (some .int)) (by decide) rfl ?_
  intro p e s m args below meth c s₁ B hml hv
  obtain ⟨rfl, hsz, hP, hK, hD0, hN⟩ := hv
  have hx := B.exec
  have hb := B.bytes
  have hr := B.returns
  have hts := atoms_spec (ws := k_O_steps) B.pre
  have hw0 : ∀ w ∈ w0, w.before _ s = true := fun w h => hts w (List.mem_cons_of_mem _ h)
  have hown : s.vm.findClass R_O = some m.cls := findClass_of_methodNamed B.named
  have hlocks := B.notSynchronized
  subst hsz
  have hD := hD0.self (sz := s.heap.size)
  generalize hAe : va_A [(h0, .inr (7, [.int i_thrown, .int 0, .int i_lasts, v_buffer, .int i_size, .int i_documents, v_gone, v_first, v_many, v_lengths, v_authors, v_sums, v_row, v_made, .int i_madeSize, v_base, .int i_baseSize, v_text, .int i_textSize, .int (-1), v_other, .int i_otherSize, v_piece, .int i_pieceSize, .int i_at, .int i_end, .int i_value]))] s.heap.size = A at hD ⊢
  have hA : ∀ q : Nat, s.heap.size ≤ q → A q := fun q h => by rw [← hAe]; exact Or.inr h
  have hS : va_S A s.heap s.heap [] := va_S.rf
  have hP : va_P (dC, dI) vwCl [(h0, .inr (7, [.int i_thrown, .int 0, .int i_lasts, v_buffer, .int i_size, .int i_documents, v_gone, v_first, v_many, v_lengths, v_authors, v_sums, v_row, v_made, .int i_madeSize, v_base, .int i_baseSize, v_text, .int i_textSize, .int (-1), v_other, .int i_otherSize, v_piece, .int i_pieceSize, .int i_at, .int i_end, .int i_value]))] s.heap := hP
  have hl := lv_entry ([.ref h0]) (n := 1) (Nat.le_of_ble_eq_true rfl)
  rw [lg_entry_eq]
  generalize (lg_sl ([.ref h0]) ++ List.replicate (1 - (lg_sl ([.ref h0])).length) Slot.unset).toArray = ls at hl ⊢
  have hl : lv_has ls 1 [(0, .ref h0)] := hl
  refine lv_aload_n hx hb d_O_steps_0 rfl (lv_at hl 0 rfl) ?_
  refine lv_iconst (v := 1) hx hb d_O_steps_1 (by decide) ?_
  have hPc := hP.sub (ws' := [(h0, .inr (7, [.int i_thrown, .int 0, .int i_lasts, v_buffer, .int i_size, .int i_documents, v_gone, v_first, v_many, v_lengths, v_authors, v_sums, v_row, v_made, .int i_madeSize, v_base, .int i_baseSize, v_text, .int i_textSize, .int (-1), v_other, .int i_otherSize, v_piece, .int i_pieceSize, .int i_at, .int i_end, .int i_value]))]) [0] rfl
  have hKc := hK.sub (tys' := []) [] rfl
  have hDc := hD.sub (ws' := [(h0, .inr (7, [.int i_thrown, .int 0, .int i_lasts, v_buffer, .int i_size, .int i_documents, v_gone, v_first, v_many, v_lengths, v_authors, v_sums, v_row, v_made, .int i_madeSize, v_base, .int i_baseSize, v_text, .int i_textSize, .int (-1), v_other, .int i_otherSize, v_piece, .int i_pieceSize, .int i_at, .int i_end, .int i_value]))]) [0] (by decide) rfl
  have hFc := va_free (wc := [(h0, .inr (7, [.int i_thrown, .int 0, .int i_lasts, v_buffer, .int i_size, .int i_documents, v_gone, v_first, v_many, v_lengths, v_authors, v_sums, v_row, v_made, .int i_madeSize, v_base, .int i_baseSize, v_text, .int i_textSize, .int (-1), v_other, .int i_otherSize, v_piece, .int i_pieceSize, .int i_at, .int i_end, .int i_value]))]) hD hS hA [0] rfl
  refine va_calli (va_runV (As := [.int 1]) (rest := []) ⟨hx, hb, hml, hown, hw0⟩ (m_runs l dC dI s.heap.size h0 i_thrown i_lasts v_buffer i_size i_documents v_gone v_first v_many v_lengths v_authors v_sums v_row v_made i_madeSize v_base i_baseSize v_text i_textSize (-1) v_other i_otherSize v_piece i_pieceSize i_at i_end i_value 1) (cwV 1 hw0 (gd_V 176 177 178 173 179 rfl rfl rfl rfl rfl) rfl rfl rfl (by decide +kernel) ⟨by decide +kernel, by decide +kernel⟩) (prV_E hPc hKc hDc hN (va_recv hKc hPc (ci := 7) (q0 := 0) rfl rfl)) rfl rfl hl.1 rfl (lv_room (Nat.le_of_ble_eq_true rfl)) d_O_steps_2 ⟨by decide +kernel, by decide +kernel⟩) hS (fun q _ h => hFc q h) hFc (fun r_1 u t H1 locs ht hvm hw hB hz1 hk1 hS => ?_)
  obtain ⟨hP1, hK1, hD1⟩ := hB
  rw [ht] at hP1
  have hK1 := va_K.moved hvm.symm hK1
  try dsimp only at hw
  obtain ⟨hP, hD⟩ := va_join (wr := []) (w1 := [(h0, .inr (7, [.int 0, .int 0, .int i_lasts, v_buffer, .int i_size, .int i_documents, v_gone, v_first, v_many, v_lengths, v_authors, v_sums, v_row, v_made, .int i_madeSize, v_base, .int i_baseSize, v_text, .int i_textSize, .int (-1), v_other, .int i_otherSize, v_piece, .int i_pieceSize, .int i_at, .int i_end, .int i_value]))]) hP hD [0] [] rfl rfl (by decide) (by decide) hk1 hFc hP1 hD1
  generalize H1 = H at hP hS ⊢
  replace hP : va_P (dC, dI) vwCl [(h0, .inr (7, [.int 0, .int 0, .int i_lasts, v_buffer, .int i_size, .int i_documents, v_gone, v_first, v_many, v_lengths, v_authors, v_sums, v_row, v_made, .int i_madeSize, v_base, .int i_baseSize, v_text, .int i_textSize, .int (-1), v_other, .int i_otherSize, v_piece, .int i_pieceSize, .int i_at, .int i_end, .int i_value]))] H := hP
  replace hD : va_D A [(h0, .inr (7, [.int 0, .int 0, .int i_lasts, v_buffer, .int i_size, .int i_documents, v_gone, v_first, v_many, v_lengths, v_authors, v_sums, v_row, v_made, .int i_madeSize, v_base, .int i_baseSize, v_text, .int i_textSize, .int (-1), v_other, .int i_otherSize, v_piece, .int i_pieceSize, .int i_at, .int i_end, .int i_value]))] := hD
  replace hK : va_K (dC, dI) vwCl [] s := hK
  obtain rfl : r_1 = 1 := hw
  refine lv_if_eq (tgt := 15) hx hb d_O_steps_5 (by decide) (fun h9 => absurd h9 (by decide +kernel)) (fun _ => ?_)
  refine lv_aload_n hx hb d_O_steps_8 rfl (lv_at hl 0 rfl) ?_
  refine va_get (D := (dC, dI)) (ci := 7) (v := .int (-1)) (C := R_O) (T := F_O) (N := 27) hx hb hw0 in_O hown hK hP 0 rfl rfl 19 (by decide) (hw0 (.fieldLink R_O 53 "TextKeeperModel" "textSteps" "I") (List.mem_of_getElem? (i := 193) rfl)) (fun _ h9 => h9) rfl d_O_steps_9 ?_
  refine lv_goto (tgt := 16) hx hb d_O_steps_12 (by decide) ?_
  have hP9 := hP.sub (ws' := [(h0, .inr (7, [.int 0, .int 0, .int i_lasts, v_buffer, .int i_size, .int i_documents, v_gone, v_first, v_many, v_lengths, v_authors, v_sums, v_row, v_made, .int i_madeSize, v_base, .int i_baseSize, v_text, .int i_textSize, .int (-1), v_other, .int i_otherSize, v_piece, .int i_pieceSize, .int i_at, .int i_end, .int i_value]))]) [0] rfl
  have hD9 := hD.sub (ws' := [(h0, .inr (7, [.int 0, .int 0, .int i_lasts, v_buffer, .int i_size, .int i_documents, v_gone, v_first, v_many, v_lengths, v_authors, v_sums, v_row, v_made, .int i_madeSize, v_base, .int i_baseSize, v_text, .int i_textSize, .int (-1), v_other, .int i_otherSize, v_piece, .int i_pieceSize, .int i_at, .int i_end, .int i_value]))]) [0] (by decide) rfl
  have hK9 := hK.sub (tys' := []) [] rfl
  exact W.iret (v := (-1)) hx hb hr (fun t ht hW => ⟨⟨(-1), (), rfl, rfl, by rw [ht]; exact hP9, va_K.moved hW.alike hK9, hD9⟩, hS.F ht⟩) hS.2.2 d_O_steps_16
set_option maxHeartbeats 4000000 in
set_option maxRecDepth 100000 in
theorem m_start (l : Launch) (dC : Nat → ClassId) (dI : Nat → Nat → Nat) (sz : Nat) (h0 : Nat) (i_thrown : Int32) (i_lasts : Int32) (v_buffer : Value) (i_size : Int32) (i_documents : Int32) (v_gone : Value) (v_first : Value) (v_many : Value) (v_lengths : Value) (v_authors : Value) (v_sums : Value) (v_row : Value) (v_made : Value) (i_madeSize : Int32) (v_base : Value) (i_baseSize : Int32) (v_text : Value) (i_textSize : Int32) (i_textSteps : Int32) (v_other : Value) (i_otherSize : Int32) (v_piece : Value) (i_pieceSize : Int32) (i_at : Int32) (i_end : Int32) (i_value : Int32)  : Met l y_O_start k_O_start ({ frames := 0, cells := 0, slots := 0, locals := 0 } : Room) (va_Pc [.ref h0] (pc_E (dC, dI) [(h0, .inr (7, [.int i_thrown, .int 0, .int i_lasts, v_buffer, .int i_size, .int i_documents, v_gone, v_first, v_many, v_lengths, v_authors, v_sums, v_row, v_made, .int i_madeSize, v_base, .int i_baseSize, v_text, .int i_textSize, .int i_textSteps, v_other, .int i_otherSize, v_piece, .int i_pieceSize, .int i_at, .int i_end, .int i_value]))] [] sz)) (va_Qi (fun (r : Int32) (_ : Unit) => r = 0) (fun (_ : Unit) t => at_E (dC, dI) (va_A [(h0, .inr (7, [.int i_thrown, .int 0, .int i_lasts, v_buffer, .int i_size, .int i_documents, v_gone, v_first, v_many, v_lengths, v_authors, v_sums, v_row, v_made, .int i_madeSize, v_base, .int i_baseSize, v_text, .int i_textSize, .int i_textSteps, v_other, .int i_otherSize, v_piece, .int i_pieceSize, .int i_at, .int i_end, .int i_value]))] sz) [(h0, .inr (7, [.int 0, .int 0, .int i_lasts, v_buffer, .int i_size, .int i_documents, v_gone, v_first, v_many, v_lengths, v_authors, v_sums, v_row, v_made, .int i_madeSize, v_base, .int i_baseSize, v_text, .int i_textSize, .int i_textSteps, v_other, .int i_otherSize, v_piece, .int i_pieceSize, .int i_at, .int i_end, .int i_value]))] [] t) (va_A [(h0, .inr (7, [.int i_thrown, .int 0, .int i_lasts, v_buffer, .int i_size, .int i_documents, v_gone, v_first, v_many, v_lengths, v_authors, v_sums, v_row, v_made, .int i_madeSize, v_base, .int i_baseSize, v_text, .int i_textSize, .int i_textSteps, v_other, .int i_otherSize, v_piece, .int i_pieceSize, .int i_at, .int i_end, .int i_value]))] sz)) 0 0 (va_A [(h0, .inr (7, [.int i_thrown, .int 0, .int i_lasts, v_buffer, .int i_size, .int i_documents, v_gone, v_first, v_many, v_lengths, v_authors, v_sums, v_row, v_made, .int i_madeSize, v_base, .int i_baseSize, v_text, .int i_textSize, .int i_textSteps, v_other, .int i_otherSize, v_piece, .int i_pieceSize, .int i_at, .int i_end, .int i_value]))] sz) := by
  refine Met.ofW (cc := prog_9_method_41_code) (maxL := 2) (ret := (some .boolean)) (by decide) rfl ?_
  intro p e s m args below meth c s₁ B hml hv
  obtain ⟨rfl, hsz, hP, hK, hD0, hN⟩ := hv
  have hx := B.exec
  have hb := B.bytes
  have hr := B.returns
  have hts := atoms_spec (ws := k_O_start) B.pre
  have hw0 : ∀ w ∈ w0, w.before _ s = true := fun w h => hts w (List.mem_cons_of_mem _ h)
  have hown : s.vm.findClass R_O = some m.cls := findClass_of_methodNamed B.named
  have hlocks := B.notSynchronized
  subst hsz
  have hD := hD0.self (sz := s.heap.size)
  generalize hAe : va_A [(h0, .inr (7, [.int i_thrown, .int 0, .int i_lasts, v_buffer, .int i_size, .int i_documents, v_gone, v_first, v_many, v_lengths, v_authors, v_sums, v_row, v_made, .int i_madeSize, v_base, .int i_baseSize, v_text, .int i_textSize, .int i_textSteps, v_other, .int i_otherSize, v_piece, .int i_pieceSize, .int i_at, .int i_end, .int i_value]))] s.heap.size = A at hD ⊢
  have hA : ∀ q : Nat, s.heap.size ≤ q → A q := fun q h => by rw [← hAe]; exact Or.inr h
  have hS : va_S A s.heap s.heap [] := va_S.rf
  have hP : va_P (dC, dI) vwCl [(h0, .inr (7, [.int i_thrown, .int 0, .int i_lasts, v_buffer, .int i_size, .int i_documents, v_gone, v_first, v_many, v_lengths, v_authors, v_sums, v_row, v_made, .int i_madeSize, v_base, .int i_baseSize, v_text, .int i_textSize, .int i_textSteps, v_other, .int i_otherSize, v_piece, .int i_pieceSize, .int i_at, .int i_end, .int i_value]))] s.heap := hP
  have hl := lv_entry ([.ref h0]) (n := 2) (Nat.le_of_ble_eq_true rfl)
  rw [lg_entry_eq]
  generalize (lg_sl ([.ref h0]) ++ List.replicate (2 - (lg_sl ([.ref h0])).length) Slot.unset).toArray = ls at hl ⊢
  have hl : lv_has ls 2 [(0, .ref h0)] := hl
  refine lv_aload_n hx hb d_O_start_0 rfl (lv_at hl 0 rfl) ?_
  refine lv_iconst (v := 0) hx hb d_O_start_1 (by decide) ?_
  refine va_put (D := (dC, dI)) (ci := 7) (v := .int 0) (ty := .int) (C := R_O) (T := F_O) (N := 27) hx hb hw0 in_O ft_O tk_O nk_O hown hK hP hD hS 0 rfl rfl 0 (by decide) (hw0 (.fieldLink R_O 62 "TextKeeperModel" "thrown" "I") (List.mem_of_getElem? (i := 168) rfl)) (fun _ h9 => h9) rfl (by decide +kernel) rfl rfl (Nat.le_of_ble_eq_true rfl) d_O_start_2 (fun H locs hP hD hS => ?_)
  replace hP : va_P (dC, dI) vwCl [(h0, .inr (7, [.int 0, .int 0, .int i_lasts, v_buffer, .int i_size, .int i_documents, v_gone, v_first, v_many, v_lengths, v_authors, v_sums, v_row, v_made, .int i_madeSize, v_base, .int i_baseSize, v_text, .int i_textSize, .int i_textSteps, v_other, .int i_otherSize, v_piece, .int i_pieceSize, .int i_at, .int i_end, .int i_value]))] H := hP
  replace hD : va_D A [(h0, .inr (7, [.int 0, .int 0, .int i_lasts, v_buffer, .int i_size, .int i_documents, v_gone, v_first, v_many, v_lengths, v_authors, v_sums, v_row, v_made, .int i_madeSize, v_base, .int i_baseSize, v_text, .int i_textSize, .int i_textSteps, v_other, .int i_otherSize, v_piece, .int i_pieceSize, .int i_at, .int i_end, .int i_value]))] := hD
  refine lv_aload_n hx hb d_O_start_5 rfl (lv_at hl 0 rfl) ?_
  refine va_get (D := (dC, dI)) (ci := 7) (v := .int 0) (C := R_O) (T := F_O) (N := 27) hx hb hw0 in_O hown hK hP 0 rfl rfl 1 (by decide) (hw0 (.fieldLink R_O 65 "TextKeeperModel" "down" "Z") (List.mem_of_getElem? (i := 167) rfl)) (fun _ h9 => h9) rfl d_O_start_6 ?_
  refine lv_istore_n (lv' := [(1, .int 0), (0, .ref h0)]) hx hb d_O_start_9 rfl hl (by decide) rfl (fun ls hl => ?_)
  refine lv_aload_n hx hb d_O_start_10 rfl (lv_at hl 1 rfl) ?_
  refine lv_iconst (v := 0) hx hb d_O_start_11 (by decide) ?_
  refine va_put (D := (dC, dI)) (ci := 7) (v := .int 0) (ty := .boolean) (C := R_O) (T := F_O) (N := 27) hx hb hw0 in_O ft_O tk_O nk_O hown hK hP hD hS 0 rfl rfl 1 (by decide) (hw0 (.fieldLink R_O 65 "TextKeeperModel" "down" "Z") (List.mem_of_getElem? (i := 167) rfl)) (fun _ h9 => h9) rfl (by decide +kernel) rfl rfl (Nat.le_of_ble_eq_true rfl) d_O_start_12 (fun H locs hP hD hS => ?_)
  replace hP : va_P (dC, dI) vwCl [(h0, .inr (7, [.int 0, .int 0, .int i_lasts, v_buffer, .int i_size, .int i_documents, v_gone, v_first, v_many, v_lengths, v_authors, v_sums, v_row, v_made, .int i_madeSize, v_base, .int i_baseSize, v_text, .int i_textSize, .int i_textSteps, v_other, .int i_otherSize, v_piece, .int i_pieceSize, .int i_at, .int i_end, .int i_value]))] H := hP
  replace hD : va_D A [(h0, .inr (7, [.int 0, .int 0, .int i_lasts, v_buffer, .int i_size, .int i_documents, v_gone, v_first, v_many, v_lengths, v_authors, v_sums, v_row, v_made, .int i_madeSize, v_base, .int i_baseSize, v_text, .int i_textSize, .int i_textSteps, v_other, .int i_otherSize, v_piece, .int i_pieceSize, .int i_at, .int i_end, .int i_value]))] := hD
  refine lv_aload_n hx hb d_O_start_15 rfl (lv_at hl 1 rfl) ?_
  refine lv_iload_n hx hb d_O_start_16 rfl (lv_at hl 0 rfl) ?_
  refine lv_if_eq (tgt := 24) hx hb d_O_start_17 (by decide) (fun _ => ?_) (fun h9 => absurd h9 (by decide +kernel))
  refine lv_aload_n hx hb d_O_start_24 rfl (lv_at hl 1 rfl) ?_
  refine va_get (D := (dC, dI)) (ci := 7) (v := .int i_lasts) (C := R_O) (T := F_O) (N := 27) hx hb hw0 in_O hown hK hP 0 rfl rfl 2 (by decide) (hw0 (.fieldLink R_O 9 "TextKeeperModel" "lasts" "I") (List.mem_of_getElem? (i := 175) rfl)) (fun _ h9 => h9) rfl d_O_start_25 ?_
  refine va_put (D := (dC, dI)) (ci := 7) (v := .int i_lasts) (ty := .int) (C := R_O) (T := F_O) (N := 27) hx hb hw0 in_O ft_O tk_O nk_O hown hK hP hD hS 0 rfl rfl 2 (by decide) (hw0 (.fieldLink R_O 9 "TextKeeperModel" "lasts" "I") (List.mem_of_getElem? (i := 175) rfl)) (fun _ h9 => h9) rfl (by decide +kernel) rfl rfl (Nat.le_of_ble_eq_true rfl) d_O_start_28 (fun H locs hP hD hS => ?_)
  replace hP : va_P (dC, dI) vwCl [(h0, .inr (7, [.int 0, .int 0, .int i_lasts, v_buffer, .int i_size, .int i_documents, v_gone, v_first, v_many, v_lengths, v_authors, v_sums, v_row, v_made, .int i_madeSize, v_base, .int i_baseSize, v_text, .int i_textSize, .int i_textSteps, v_other, .int i_otherSize, v_piece, .int i_pieceSize, .int i_at, .int i_end, .int i_value]))] H := hP
  replace hD : va_D A [(h0, .inr (7, [.int 0, .int 0, .int i_lasts, v_buffer, .int i_size, .int i_documents, v_gone, v_first, v_many, v_lengths, v_authors, v_sums, v_row, v_made, .int i_madeSize, v_base, .int i_baseSize, v_text, .int i_textSize, .int i_textSteps, v_other, .int i_otherSize, v_piece, .int i_pieceSize, .int i_at, .int i_end, .int i_value]))] := hD
  refine lv_iload_n hx hb d_O_start_31 rfl (lv_at hl 0 rfl) ?_
  have hP9 := hP.sub (ws' := [(h0, .inr (7, [.int 0, .int 0, .int i_lasts, v_buffer, .int i_size, .int i_documents, v_gone, v_first, v_many, v_lengths, v_authors, v_sums, v_row, v_made, .int i_madeSize, v_base, .int i_baseSize, v_text, .int i_textSize, .int i_textSteps, v_other, .int i_otherSize, v_piece, .int i_pieceSize, .int i_at, .int i_end, .int i_value]))]) [0] rfl
  have hD9 := hD.sub (ws' := [(h0, .inr (7, [.int 0, .int 0, .int i_lasts, v_buffer, .int i_size, .int i_documents, v_gone, v_first, v_many, v_lengths, v_authors, v_sums, v_row, v_made, .int i_madeSize, v_base, .int i_baseSize, v_text, .int i_textSize, .int i_textSteps, v_other, .int i_otherSize, v_piece, .int i_pieceSize, .int i_at, .int i_end, .int i_value]))]) [0] (by decide) rfl
  have hK9 := hK.sub (tys' := []) [] rfl
  exact W.zret (v := 0) (ty := .boolean) hx hb hr rfl (fun t ht hW => ⟨⟨0, (), rfl, rfl, by rw [ht]; exact hP9, va_K.moved hW.alike hK9, hD9⟩, hS.F ht⟩) hS.2.2 d_O_start_32
set_option maxHeartbeats 4000000 in
set_option maxRecDepth 100000 in
theorem m_isDown (l : Launch) (dC : Nat → ClassId) (dI : Nat → Nat → Nat) (sz : Nat) (h0 : Nat) (i_thrown : Int32) (i_lasts : Int32) (v_buffer : Value) (i_size : Int32) (i_documents : Int32) (v_gone : Value) (v_first : Value) (v_many : Value) (v_lengths : Value) (v_authors : Value) (v_sums : Value) (v_row : Value) (v_made : Value) (i_madeSize : Int32) (v_base : Value) (i_baseSize : Int32) (v_text : Value) (i_textSize : Int32) (i_textSteps : Int32) (v_other : Value) (i_otherSize : Int32) (v_piece : Value) (i_pieceSize : Int32) (i_at : Int32) (i_end : Int32) (i_value : Int32)  : Met l y_O_isDown k_O_isDown ({ frames := 0, cells := 0, slots := 0, locals := 0 } : Room) (va_Pc [.ref h0] (pc_E (dC, dI) [(h0, .inr (7, [.int i_thrown, .int 0, .int i_lasts, v_buffer, .int i_size, .int i_documents, v_gone, v_first, v_many, v_lengths, v_authors, v_sums, v_row, v_made, .int i_madeSize, v_base, .int i_baseSize, v_text, .int i_textSize, .int i_textSteps, v_other, .int i_otherSize, v_piece, .int i_pieceSize, .int i_at, .int i_end, .int i_value]))] [] sz)) (va_Qi (fun (r : Int32) (_ : Unit) => r = 0) (fun (_ : Unit) t => at_E (dC, dI) (va_A [(h0, .inr (7, [.int i_thrown, .int 0, .int i_lasts, v_buffer, .int i_size, .int i_documents, v_gone, v_first, v_many, v_lengths, v_authors, v_sums, v_row, v_made, .int i_madeSize, v_base, .int i_baseSize, v_text, .int i_textSize, .int i_textSteps, v_other, .int i_otherSize, v_piece, .int i_pieceSize, .int i_at, .int i_end, .int i_value]))] sz) [(h0, .inr (7, [.int 0, .int 0, .int i_lasts, v_buffer, .int i_size, .int i_documents, v_gone, v_first, v_many, v_lengths, v_authors, v_sums, v_row, v_made, .int i_madeSize, v_base, .int i_baseSize, v_text, .int i_textSize, .int i_textSteps, v_other, .int i_otherSize, v_piece, .int i_pieceSize, .int i_at, .int i_end, .int i_value]))] [] t) (va_A [(h0, .inr (7, [.int i_thrown, .int 0, .int i_lasts, v_buffer, .int i_size, .int i_documents, v_gone, v_first, v_many, v_lengths, v_authors, v_sums, v_row, v_made, .int i_madeSize, v_base, .int i_baseSize, v_text, .int i_textSize, .int i_textSteps, v_other, .int i_otherSize, v_piece, .int i_pieceSize, .int i_at, .int i_end, .int i_value]))] sz)) 0 0 (va_A [(h0, .inr (7, [.int i_thrown, .int 0, .int i_lasts, v_buffer, .int i_size, .int i_documents, v_gone, v_first, v_many, v_lengths, v_authors, v_sums, v_row, v_made, .int i_madeSize, v_base, .int i_baseSize, v_text, .int i_textSize, .int i_textSteps, v_other, .int i_otherSize, v_piece, .int i_pieceSize, .int i_at, .int i_end, .int i_value]))] sz) := by
  refine Met.ofW (cc := prog_9_method_42_code) (maxL := 1) (ret := (some .boolean)) (by decide) rfl ?_
  intro p e s m args below meth c s₁ B hml hv
  obtain ⟨rfl, hsz, hP, hK, hD0, hN⟩ := hv
  have hx := B.exec
  have hb := B.bytes
  have hr := B.returns
  have hts := atoms_spec (ws := k_O_isDown) B.pre
  have hw0 : ∀ w ∈ w0, w.before _ s = true := fun w h => hts w (List.mem_cons_of_mem _ h)
  have hown : s.vm.findClass R_O = some m.cls := findClass_of_methodNamed B.named
  have hlocks := B.notSynchronized
  subst hsz
  have hD := hD0.self (sz := s.heap.size)
  generalize hAe : va_A [(h0, .inr (7, [.int i_thrown, .int 0, .int i_lasts, v_buffer, .int i_size, .int i_documents, v_gone, v_first, v_many, v_lengths, v_authors, v_sums, v_row, v_made, .int i_madeSize, v_base, .int i_baseSize, v_text, .int i_textSize, .int i_textSteps, v_other, .int i_otherSize, v_piece, .int i_pieceSize, .int i_at, .int i_end, .int i_value]))] s.heap.size = A at hD ⊢
  have hA : ∀ q : Nat, s.heap.size ≤ q → A q := fun q h => by rw [← hAe]; exact Or.inr h
  have hS : va_S A s.heap s.heap [] := va_S.rf
  have hP : va_P (dC, dI) vwCl [(h0, .inr (7, [.int i_thrown, .int 0, .int i_lasts, v_buffer, .int i_size, .int i_documents, v_gone, v_first, v_many, v_lengths, v_authors, v_sums, v_row, v_made, .int i_madeSize, v_base, .int i_baseSize, v_text, .int i_textSize, .int i_textSteps, v_other, .int i_otherSize, v_piece, .int i_pieceSize, .int i_at, .int i_end, .int i_value]))] s.heap := hP
  have hl := lv_entry ([.ref h0]) (n := 1) (Nat.le_of_ble_eq_true rfl)
  rw [lg_entry_eq]
  generalize (lg_sl ([.ref h0]) ++ List.replicate (1 - (lg_sl ([.ref h0])).length) Slot.unset).toArray = ls at hl ⊢
  have hl : lv_has ls 1 [(0, .ref h0)] := hl
  refine lv_aload_n hx hb d_O_isDown_0 rfl (lv_at hl 0 rfl) ?_
  refine lv_iconst (v := 0) hx hb d_O_isDown_1 (by decide) ?_
  refine va_put (D := (dC, dI)) (ci := 7) (v := .int 0) (ty := .int) (C := R_O) (T := F_O) (N := 27) hx hb hw0 in_O ft_O tk_O nk_O hown hK hP hD hS 0 rfl rfl 0 (by decide) (hw0 (.fieldLink R_O 62 "TextKeeperModel" "thrown" "I") (List.mem_of_getElem? (i := 168) rfl)) (fun _ h9 => h9) rfl (by decide +kernel) rfl rfl (Nat.le_of_ble_eq_true rfl) d_O_isDown_2 (fun H locs hP hD hS => ?_)
  replace hP : va_P (dC, dI) vwCl [(h0, .inr (7, [.int 0, .int 0, .int i_lasts, v_buffer, .int i_size, .int i_documents, v_gone, v_first, v_many, v_lengths, v_authors, v_sums, v_row, v_made, .int i_madeSize, v_base, .int i_baseSize, v_text, .int i_textSize, .int i_textSteps, v_other, .int i_otherSize, v_piece, .int i_pieceSize, .int i_at, .int i_end, .int i_value]))] H := hP
  replace hD : va_D A [(h0, .inr (7, [.int 0, .int 0, .int i_lasts, v_buffer, .int i_size, .int i_documents, v_gone, v_first, v_many, v_lengths, v_authors, v_sums, v_row, v_made, .int i_madeSize, v_base, .int i_baseSize, v_text, .int i_textSize, .int i_textSteps, v_other, .int i_otherSize, v_piece, .int i_pieceSize, .int i_at, .int i_end, .int i_value]))] := hD
  refine lv_aload_n hx hb d_O_isDown_5 rfl (lv_at hl 0 rfl) ?_
  refine va_get (D := (dC, dI)) (ci := 7) (v := .int 0) (C := R_O) (T := F_O) (N := 27) hx hb hw0 in_O hown hK hP 0 rfl rfl 1 (by decide) (hw0 (.fieldLink R_O 65 "TextKeeperModel" "down" "Z") (List.mem_of_getElem? (i := 167) rfl)) (fun _ h9 => h9) rfl d_O_isDown_6 ?_
  have hP9 := hP.sub (ws' := [(h0, .inr (7, [.int 0, .int 0, .int i_lasts, v_buffer, .int i_size, .int i_documents, v_gone, v_first, v_many, v_lengths, v_authors, v_sums, v_row, v_made, .int i_madeSize, v_base, .int i_baseSize, v_text, .int i_textSize, .int i_textSteps, v_other, .int i_otherSize, v_piece, .int i_pieceSize, .int i_at, .int i_end, .int i_value]))]) [0] rfl
  have hD9 := hD.sub (ws' := [(h0, .inr (7, [.int 0, .int 0, .int i_lasts, v_buffer, .int i_size, .int i_documents, v_gone, v_first, v_many, v_lengths, v_authors, v_sums, v_row, v_made, .int i_madeSize, v_base, .int i_baseSize, v_text, .int i_textSize, .int i_textSteps, v_other, .int i_otherSize, v_piece, .int i_pieceSize, .int i_at, .int i_end, .int i_value]))]) [0] (by decide) rfl
  have hK9 := hK.sub (tys' := []) [] rfl
  exact W.zret (v := 0) (ty := .boolean) hx hb hr rfl (fun t ht hW => ⟨⟨0, (), rfl, rfl, by rw [ht]; exact hP9, va_K.moved hW.alike hK9, hD9⟩, hS.F ht⟩) hS.2.2 d_O_isDown_9
set_option maxHeartbeats 4000000 in
set_option maxRecDepth 100000 in
theorem m_end_T (l : Launch) (dC : Nat → ClassId) (dI : Nat → Nat → Nat) (sz : Nat) (h0 : Nat) (i_thrown : Int32) (i_lasts : Int32) (v_buffer : Value) (i_documents : Int32) (v_gone : Value) (v_first : Value) (v_many : Value) (v_lengths : Value) (v_authors : Value) (v_sums : Value) (v_row : Value) (v_made : Value) (i_madeSize : Int32) (v_base : Value) (i_baseSize : Int32) (v_text : Value) (i_textSize : Int32) (i_textSteps : Int32) (v_other : Value) (i_otherSize : Int32) (v_piece : Value) (i_pieceSize : Int32) (i_at : Int32) (i_end : Int32) (i_value : Int32) (a1 : Int32) (h1 : ¬ a1 < 0) (h2 : ¬ 0 < a1) : Met l y_O_end k_O_end ({ frames := 1, cells := 0, slots := 0, locals := 21 } : Room) (va_Pc [.ref h0, .int a1] (pc_E (dC, dI) [(h0, .inr (7, [.int i_thrown, .int 0, .int i_lasts, v_buffer, .int 0, .int i_documents, v_gone, v_first, v_many, v_lengths, v_authors, v_sums, v_row, v_made, .int i_madeSize, v_base, .int i_baseSize, v_text, .int i_textSize, .int i_textSteps, v_other, .int i_otherSize, v_piece, .int i_pieceSize, .int i_at, .int i_end, .int i_value]))] [] sz)) (va_Qi (fun (r : Int32) (_ : Unit) => r = 1) (fun (_ : Unit) t => at_E (dC, dI) (va_A [(h0, .inr (7, [.int i_thrown, .int 0, .int i_lasts, v_buffer, .int 0, .int i_documents, v_gone, v_first, v_many, v_lengths, v_authors, v_sums, v_row, v_made, .int i_madeSize, v_base, .int i_baseSize, v_text, .int i_textSize, .int i_textSteps, v_other, .int i_otherSize, v_piece, .int i_pieceSize, .int i_at, .int i_end, .int i_value]))] sz) [(h0, .inr (7, [.int 0, .int 0, .int i_lasts, v_buffer, .int a1, .int i_documents, v_gone, v_first, v_many, v_lengths, v_authors, v_sums, v_row, v_made, .int i_madeSize, v_base, .int i_baseSize, v_text, .int i_textSize, .int i_textSteps, v_other, .int i_otherSize, v_piece, .int i_pieceSize, .int i_at, .int i_end, .int i_value]))] [] t) (va_A [(h0, .inr (7, [.int i_thrown, .int 0, .int i_lasts, v_buffer, .int 0, .int i_documents, v_gone, v_first, v_many, v_lengths, v_authors, v_sums, v_row, v_made, .int i_madeSize, v_base, .int i_baseSize, v_text, .int i_textSize, .int i_textSteps, v_other, .int i_otherSize, v_piece, .int i_pieceSize, .int i_at, .int i_end, .int i_value]))] sz)) 0 0 (va_A [(h0, .inr (7, [.int i_thrown, .int 0, .int i_lasts, v_buffer, .int 0, .int i_documents, v_gone, v_first, v_many, v_lengths, v_authors, v_sums, v_row, v_made, .int i_madeSize, v_base, .int i_baseSize, v_text, .int i_textSize, .int i_textSteps, v_other, .int i_otherSize, v_piece, .int i_pieceSize, .int i_at, .int i_end, .int i_value]))] sz) := by
  refine Met.ofW (cc := prog_9_method_6_code) (maxL := 2) (ret := (some .boolean)) (by decide) rfl ?_
  intro p e s m args below meth c s₁ B hml hv
  obtain ⟨rfl, hsz, hP, hK, hD0, hN⟩ := hv
  have hx := B.exec
  have hb := B.bytes
  have hr := B.returns
  have hts := atoms_spec (ws := k_O_end) B.pre
  have hw0 : ∀ w ∈ w0, w.before _ s = true := fun w h => hts w (List.mem_cons_of_mem _ h)
  have hown : s.vm.findClass R_O = some m.cls := findClass_of_methodNamed B.named
  have hlocks := B.notSynchronized
  subst hsz
  have hD := hD0.self (sz := s.heap.size)
  generalize hAe : va_A [(h0, .inr (7, [.int i_thrown, .int 0, .int i_lasts, v_buffer, .int 0, .int i_documents, v_gone, v_first, v_many, v_lengths, v_authors, v_sums, v_row, v_made, .int i_madeSize, v_base, .int i_baseSize, v_text, .int i_textSize, .int i_textSteps, v_other, .int i_otherSize, v_piece, .int i_pieceSize, .int i_at, .int i_end, .int i_value]))] s.heap.size = A at hD ⊢
  have hA : ∀ q : Nat, s.heap.size ≤ q → A q := fun q h => by rw [← hAe]; exact Or.inr h
  have hS : va_S A s.heap s.heap [] := va_S.rf
  have hP : va_P (dC, dI) vwCl [(h0, .inr (7, [.int i_thrown, .int 0, .int i_lasts, v_buffer, .int 0, .int i_documents, v_gone, v_first, v_many, v_lengths, v_authors, v_sums, v_row, v_made, .int i_madeSize, v_base, .int i_baseSize, v_text, .int i_textSize, .int i_textSteps, v_other, .int i_otherSize, v_piece, .int i_pieceSize, .int i_at, .int i_end, .int i_value]))] s.heap := hP
  have hl := lv_entry ([.ref h0, .int a1]) (n := 2) (Nat.le_of_ble_eq_true rfl)
  rw [lg_entry_eq]
  generalize (lg_sl ([.ref h0, .int a1]) ++ List.replicate (2 - (lg_sl ([.ref h0, .int a1])).length) Slot.unset).toArray = ls at hl ⊢
  have hl : lv_has ls 2 [(0, .ref h0), (1, .int a1)] := hl
  refine lv_aload_n hx hb d_O_end_0 rfl (lv_at hl 0 rfl) ?_
  refine lv_iconst (v := 1) hx hb d_O_end_1 (by decide) ?_
  have hPc := hP.sub (ws' := [(h0, .inr (7, [.int i_thrown, .int 0, .int i_lasts, v_buffer, .int 0, .int i_documents, v_gone, v_first, v_many, v_lengths, v_authors, v_sums, v_row, v_made, .int i_madeSize, v_base, .int i_baseSize, v_text, .int i_textSize, .int i_textSteps, v_other, .int i_otherSize, v_piece, .int i_pieceSize, .int i_at, .int i_end, .int i_value]))]) [0] rfl
  have hKc := hK.sub (tys' := []) [] rfl
  have hDc := hD.sub (ws' := [(h0, .inr (7, [.int i_thrown, .int 0, .int i_lasts, v_buffer, .int 0, .int i_documents, v_gone, v_first, v_many, v_lengths, v_authors, v_sums, v_row, v_made, .int i_madeSize, v_base, .int i_baseSize, v_text, .int i_textSize, .int i_textSteps, v_other, .int i_otherSize, v_piece, .int i_pieceSize, .int i_at, .int i_end, .int i_value]))]) [0] (by decide) rfl
  have hFc := va_free (wc := [(h0, .inr (7, [.int i_thrown, .int 0, .int i_lasts, v_buffer, .int 0, .int i_documents, v_gone, v_first, v_many, v_lengths, v_authors, v_sums, v_row, v_made, .int i_madeSize, v_base, .int i_baseSize, v_text, .int i_textSize, .int i_textSteps, v_other, .int i_otherSize, v_piece, .int i_pieceSize, .int i_at, .int i_end, .int i_value]))]) hD hS hA [0] rfl
  refine va_calli (va_runV (As := [.int 1]) (rest := []) ⟨hx, hb, hml, hown, hw0⟩ (m_runs l dC dI s.heap.size h0 i_thrown i_lasts v_buffer 0 i_documents v_gone v_first v_many v_lengths v_authors v_sums v_row v_made i_madeSize v_base i_baseSize v_text i_textSize i_textSteps v_other i_otherSize v_piece i_pieceSize i_at i_end i_value 1) (cwV 1 hw0 (gd_V 176 177 178 173 179 rfl rfl rfl rfl rfl) rfl rfl rfl (by decide +kernel) ⟨by decide +kernel, by decide +kernel⟩) (prV_E hPc hKc hDc hN (va_recv hKc hPc (ci := 7) (q0 := 0) rfl rfl)) rfl rfl hl.1 rfl (lv_room (Nat.le_of_ble_eq_true rfl)) d_O_end_2 ⟨by decide +kernel, by decide +kernel⟩) hS (fun q _ h => hFc q h) hFc (fun r_1 u t H1 locs ht hvm hw hB hz1 hk1 hS => ?_)
  obtain ⟨hP1, hK1, hD1⟩ := hB
  rw [ht] at hP1
  have hK1 := va_K.moved hvm.symm hK1
  try dsimp only at hw
  obtain ⟨hP, hD⟩ := va_join (wr := []) (w1 := [(h0, .inr (7, [.int 0, .int 0, .int i_lasts, v_buffer, .int 0, .int i_documents, v_gone, v_first, v_many, v_lengths, v_authors, v_sums, v_row, v_made, .int i_madeSize, v_base, .int i_baseSize, v_text, .int i_textSize, .int i_textSteps, v_other, .int i_otherSize, v_piece, .int i_pieceSize, .int i_at, .int i_end, .int i_value]))]) hP hD [0] [] rfl rfl (by decide) (by decide) hk1 hFc hP1 hD1
  generalize H1 = H at hP hS ⊢
  replace hP : va_P (dC, dI) vwCl [(h0, .inr (7, [.int 0, .int 0, .int i_lasts, v_buffer, .int 0, .int i_documents, v_gone, v_first, v_many, v_lengths, v_authors, v_sums, v_row, v_made, .int i_madeSize, v_base, .int i_baseSize, v_text, .int i_textSize, .int i_textSteps, v_other, .int i_otherSize, v_piece, .int i_pieceSize, .int i_at, .int i_end, .int i_value]))] H := hP
  replace hD : va_D A [(h0, .inr (7, [.int 0, .int 0, .int i_lasts, v_buffer, .int 0, .int i_documents, v_gone, v_first, v_many, v_lengths, v_authors, v_sums, v_row, v_made, .int i_madeSize, v_base, .int i_baseSize, v_text, .int i_textSize, .int i_textSteps, v_other, .int i_otherSize, v_piece, .int i_pieceSize, .int i_at, .int i_end, .int i_value]))] := hD
  replace hK : va_K (dC, dI) vwCl [] s := hK
  obtain rfl : r_1 = 1 := hw
  refine lv_if_eq (tgt := 20) hx hb d_O_end_5 (by decide) (fun h9 => absurd h9 (by decide +kernel)) (fun _ => ?_)
  refine lv_iload_n hx hb d_O_end_8 rfl (lv_at hl 1 rfl) ?_
  refine lv_if_lt (tgt := 20) hx hb d_O_end_9 (by decide) (fun c_3 => absurd c_3 h1) (fun c_3 => ?_)
  refine lv_iload_n hx hb d_O_end_12 rfl (lv_at hl 1 rfl) ?_
  refine lv_aload_n hx hb d_O_end_13 rfl (lv_at hl 0 rfl) ?_
  refine va_get (D := (dC, dI)) (ci := 7) (v := .int 0) (C := R_O) (T := F_O) (N := 27) hx hb hw0 in_O hown hK hP 0 rfl rfl 4 (by decide) (hw0 (.fieldLink R_O 69 "TextKeeperModel" "size" "I") (List.mem_of_getElem? (i := 194) rfl)) (fun _ h9 => h9) rfl d_O_end_14 ?_
  refine lv_icmp_le (tgt := 22) hx hb d_O_end_17 (by decide) (fun c_4 => ?_) (fun c_4 => absurd (Int32.not_lt.mp h2) c_4)
  refine lv_aload_n hx hb d_O_end_22 rfl (lv_at hl 0 rfl) ?_
  refine lv_iload_n hx hb d_O_end_23 rfl (lv_at hl 1 rfl) ?_
  refine va_put (D := (dC, dI)) (ci := 7) (v := .int a1) (ty := .int) (C := R_O) (T := F_O) (N := 27) hx hb hw0 in_O ft_O tk_O nk_O hown hK hP hD hS 0 rfl rfl 4 (by decide) (hw0 (.fieldLink R_O 69 "TextKeeperModel" "size" "I") (List.mem_of_getElem? (i := 194) rfl)) (fun _ h9 => h9) rfl (by decide +kernel) rfl rfl (Nat.le_of_ble_eq_true rfl) d_O_end_24 (fun H locs hP hD hS => ?_)
  replace hP : va_P (dC, dI) vwCl [(h0, .inr (7, [.int 0, .int 0, .int i_lasts, v_buffer, .int a1, .int i_documents, v_gone, v_first, v_many, v_lengths, v_authors, v_sums, v_row, v_made, .int i_madeSize, v_base, .int i_baseSize, v_text, .int i_textSize, .int i_textSteps, v_other, .int i_otherSize, v_piece, .int i_pieceSize, .int i_at, .int i_end, .int i_value]))] H := hP
  replace hD : va_D A [(h0, .inr (7, [.int 0, .int 0, .int i_lasts, v_buffer, .int a1, .int i_documents, v_gone, v_first, v_many, v_lengths, v_authors, v_sums, v_row, v_made, .int i_madeSize, v_base, .int i_baseSize, v_text, .int i_textSize, .int i_textSteps, v_other, .int i_otherSize, v_piece, .int i_pieceSize, .int i_at, .int i_end, .int i_value]))] := hD
  refine lv_iconst (v := 1) hx hb d_O_end_27 (by decide) ?_
  have hP9 := hP.sub (ws' := [(h0, .inr (7, [.int 0, .int 0, .int i_lasts, v_buffer, .int a1, .int i_documents, v_gone, v_first, v_many, v_lengths, v_authors, v_sums, v_row, v_made, .int i_madeSize, v_base, .int i_baseSize, v_text, .int i_textSize, .int i_textSteps, v_other, .int i_otherSize, v_piece, .int i_pieceSize, .int i_at, .int i_end, .int i_value]))]) [0] rfl
  have hD9 := hD.sub (ws' := [(h0, .inr (7, [.int 0, .int 0, .int i_lasts, v_buffer, .int a1, .int i_documents, v_gone, v_first, v_many, v_lengths, v_authors, v_sums, v_row, v_made, .int i_madeSize, v_base, .int i_baseSize, v_text, .int i_textSize, .int i_textSteps, v_other, .int i_otherSize, v_piece, .int i_pieceSize, .int i_at, .int i_end, .int i_value]))]) [0] (by decide) rfl
  have hK9 := hK.sub (tys' := []) [] rfl
  exact W.zret (v := 1) (ty := .boolean) hx hb hr rfl (fun t ht hW => ⟨⟨1, (), rfl, rfl, by rw [ht]; exact hP9, va_K.moved hW.alike hK9, hD9⟩, hS.F ht⟩) hS.2.2 d_O_end_28
set_option maxHeartbeats 4000000 in
set_option maxRecDepth 100000 in
theorem m_end_F (l : Launch) (dC : Nat → ClassId) (dI : Nat → Nat → Nat) (sz : Nat) (h0 : Nat) (i_thrown : Int32) (i_lasts : Int32) (v_buffer : Value) (i_documents : Int32) (v_gone : Value) (v_first : Value) (v_many : Value) (v_lengths : Value) (v_authors : Value) (v_sums : Value) (v_row : Value) (v_made : Value) (i_madeSize : Int32) (v_base : Value) (i_baseSize : Int32) (v_text : Value) (i_textSize : Int32) (i_textSteps : Int32) (v_other : Value) (i_otherSize : Int32) (v_piece : Value) (i_pieceSize : Int32) (i_at : Int32) (i_end : Int32) (i_value : Int32) (a1 : Int32) (h1 : a1 < 0 ∨ 0 < a1) : Met l y_O_end k_O_end ({ frames := 1, cells := 0, slots := 0, locals := 21 } : Room) (va_Pc [.ref h0, .int a1] (pc_E (dC, dI) [(h0, .inr (7, [.int i_thrown, .int 0, .int i_lasts, v_buffer, .int 0, .int i_documents, v_gone, v_first, v_many, v_lengths, v_authors, v_sums, v_row, v_made, .int i_madeSize, v_base, .int i_baseSize, v_text, .int i_textSize, .int i_textSteps, v_other, .int i_otherSize, v_piece, .int i_pieceSize, .int i_at, .int i_end, .int i_value]))] [] sz)) (va_Qi (fun (r : Int32) (_ : Unit) => r = 0) (fun (_ : Unit) t => at_E (dC, dI) (va_A [(h0, .inr (7, [.int i_thrown, .int 0, .int i_lasts, v_buffer, .int 0, .int i_documents, v_gone, v_first, v_many, v_lengths, v_authors, v_sums, v_row, v_made, .int i_madeSize, v_base, .int i_baseSize, v_text, .int i_textSize, .int i_textSteps, v_other, .int i_otherSize, v_piece, .int i_pieceSize, .int i_at, .int i_end, .int i_value]))] sz) [(h0, .inr (7, [.int 0, .int 0, .int i_lasts, v_buffer, .int 0, .int i_documents, v_gone, v_first, v_many, v_lengths, v_authors, v_sums, v_row, v_made, .int i_madeSize, v_base, .int i_baseSize, v_text, .int i_textSize, .int i_textSteps, v_other, .int i_otherSize, v_piece, .int i_pieceSize, .int i_at, .int i_end, .int i_value]))] [] t) (va_A [(h0, .inr (7, [.int i_thrown, .int 0, .int i_lasts, v_buffer, .int 0, .int i_documents, v_gone, v_first, v_many, v_lengths, v_authors, v_sums, v_row, v_made, .int i_madeSize, v_base, .int i_baseSize, v_text, .int i_textSize, .int i_textSteps, v_other, .int i_otherSize, v_piece, .int i_pieceSize, .int i_at, .int i_end, .int i_value]))] sz)) 0 0 (va_A [(h0, .inr (7, [.int i_thrown, .int 0, .int i_lasts, v_buffer, .int 0, .int i_documents, v_gone, v_first, v_many, v_lengths, v_authors, v_sums, v_row, v_made, .int i_madeSize, v_base, .int i_baseSize, v_text, .int i_textSize, .int i_textSteps, v_other, .int i_otherSize, v_piece, .int i_pieceSize, .int i_at, .int i_end, .int i_value]))] sz) := by
  refine Met.ofW (cc := prog_9_method_6_code) (maxL := 2) (ret := (some .boolean)) (by decide) rfl ?_
  intro p e s m args below meth c s₁ B hml hv
  obtain ⟨rfl, hsz, hP, hK, hD0, hN⟩ := hv
  have hx := B.exec
  have hb := B.bytes
  have hr := B.returns
  have hts := atoms_spec (ws := k_O_end) B.pre
  have hw0 : ∀ w ∈ w0, w.before _ s = true := fun w h => hts w (List.mem_cons_of_mem _ h)
  have hown : s.vm.findClass R_O = some m.cls := findClass_of_methodNamed B.named
  have hlocks := B.notSynchronized
  subst hsz
  have hD := hD0.self (sz := s.heap.size)
  generalize hAe : va_A [(h0, .inr (7, [.int i_thrown, .int 0, .int i_lasts, v_buffer, .int 0, .int i_documents, v_gone, v_first, v_many, v_lengths, v_authors, v_sums, v_row, v_made, .int i_madeSize, v_base, .int i_baseSize, v_text, .int i_textSize, .int i_textSteps, v_other, .int i_otherSize, v_piece, .int i_pieceSize, .int i_at, .int i_end, .int i_value]))] s.heap.size = A at hD ⊢
  have hA : ∀ q : Nat, s.heap.size ≤ q → A q := fun q h => by rw [← hAe]; exact Or.inr h
  have hS : va_S A s.heap s.heap [] := va_S.rf
  have hP : va_P (dC, dI) vwCl [(h0, .inr (7, [.int i_thrown, .int 0, .int i_lasts, v_buffer, .int 0, .int i_documents, v_gone, v_first, v_many, v_lengths, v_authors, v_sums, v_row, v_made, .int i_madeSize, v_base, .int i_baseSize, v_text, .int i_textSize, .int i_textSteps, v_other, .int i_otherSize, v_piece, .int i_pieceSize, .int i_at, .int i_end, .int i_value]))] s.heap := hP
  have hl := lv_entry ([.ref h0, .int a1]) (n := 2) (Nat.le_of_ble_eq_true rfl)
  rw [lg_entry_eq]
  generalize (lg_sl ([.ref h0, .int a1]) ++ List.replicate (2 - (lg_sl ([.ref h0, .int a1])).length) Slot.unset).toArray = ls at hl ⊢
  have hl : lv_has ls 2 [(0, .ref h0), (1, .int a1)] := hl
  refine lv_aload_n hx hb d_O_end_0 rfl (lv_at hl 0 rfl) ?_
  refine lv_iconst (v := 1) hx hb d_O_end_1 (by decide) ?_
  have hPc := hP.sub (ws' := [(h0, .inr (7, [.int i_thrown, .int 0, .int i_lasts, v_buffer, .int 0, .int i_documents, v_gone, v_first, v_many, v_lengths, v_authors, v_sums, v_row, v_made, .int i_madeSize, v_base, .int i_baseSize, v_text, .int i_textSize, .int i_textSteps, v_other, .int i_otherSize, v_piece, .int i_pieceSize, .int i_at, .int i_end, .int i_value]))]) [0] rfl
  have hKc := hK.sub (tys' := []) [] rfl
  have hDc := hD.sub (ws' := [(h0, .inr (7, [.int i_thrown, .int 0, .int i_lasts, v_buffer, .int 0, .int i_documents, v_gone, v_first, v_many, v_lengths, v_authors, v_sums, v_row, v_made, .int i_madeSize, v_base, .int i_baseSize, v_text, .int i_textSize, .int i_textSteps, v_other, .int i_otherSize, v_piece, .int i_pieceSize, .int i_at, .int i_end, .int i_value]))]) [0] (by decide) rfl
  have hFc := va_free (wc := [(h0, .inr (7, [.int i_thrown, .int 0, .int i_lasts, v_buffer, .int 0, .int i_documents, v_gone, v_first, v_many, v_lengths, v_authors, v_sums, v_row, v_made, .int i_madeSize, v_base, .int i_baseSize, v_text, .int i_textSize, .int i_textSteps, v_other, .int i_otherSize, v_piece, .int i_pieceSize, .int i_at, .int i_end, .int i_value]))]) hD hS hA [0] rfl
  refine va_calli (va_runV (As := [.int 1]) (rest := []) ⟨hx, hb, hml, hown, hw0⟩ (m_runs l dC dI s.heap.size h0 i_thrown i_lasts v_buffer 0 i_documents v_gone v_first v_many v_lengths v_authors v_sums v_row v_made i_madeSize v_base i_baseSize v_text i_textSize i_textSteps v_other i_otherSize v_piece i_pieceSize i_at i_end i_value 1) (cwV 1 hw0 (gd_V 176 177 178 173 179 rfl rfl rfl rfl rfl) rfl rfl rfl (by decide +kernel) ⟨by decide +kernel, by decide +kernel⟩) (prV_E hPc hKc hDc hN (va_recv hKc hPc (ci := 7) (q0 := 0) rfl rfl)) rfl rfl hl.1 rfl (lv_room (Nat.le_of_ble_eq_true rfl)) d_O_end_2 ⟨by decide +kernel, by decide +kernel⟩) hS (fun q _ h => hFc q h) hFc (fun r_1 u t H1 locs ht hvm hw hB hz1 hk1 hS => ?_)
  obtain ⟨hP1, hK1, hD1⟩ := hB
  rw [ht] at hP1
  have hK1 := va_K.moved hvm.symm hK1
  try dsimp only at hw
  obtain ⟨hP, hD⟩ := va_join (wr := []) (w1 := [(h0, .inr (7, [.int 0, .int 0, .int i_lasts, v_buffer, .int 0, .int i_documents, v_gone, v_first, v_many, v_lengths, v_authors, v_sums, v_row, v_made, .int i_madeSize, v_base, .int i_baseSize, v_text, .int i_textSize, .int i_textSteps, v_other, .int i_otherSize, v_piece, .int i_pieceSize, .int i_at, .int i_end, .int i_value]))]) hP hD [0] [] rfl rfl (by decide) (by decide) hk1 hFc hP1 hD1
  generalize H1 = H at hP hS ⊢
  replace hP : va_P (dC, dI) vwCl [(h0, .inr (7, [.int 0, .int 0, .int i_lasts, v_buffer, .int 0, .int i_documents, v_gone, v_first, v_many, v_lengths, v_authors, v_sums, v_row, v_made, .int i_madeSize, v_base, .int i_baseSize, v_text, .int i_textSize, .int i_textSteps, v_other, .int i_otherSize, v_piece, .int i_pieceSize, .int i_at, .int i_end, .int i_value]))] H := hP
  replace hD : va_D A [(h0, .inr (7, [.int 0, .int 0, .int i_lasts, v_buffer, .int 0, .int i_documents, v_gone, v_first, v_many, v_lengths, v_authors, v_sums, v_row, v_made, .int i_madeSize, v_base, .int i_baseSize, v_text, .int i_textSize, .int i_textSteps, v_other, .int i_otherSize, v_piece, .int i_pieceSize, .int i_at, .int i_end, .int i_value]))] := hD
  replace hK : va_K (dC, dI) vwCl [] s := hK
  obtain rfl : r_1 = 1 := hw
  refine lv_if_eq (tgt := 20) hx hb d_O_end_5 (by decide) (fun h9 => absurd h9 (by decide +kernel)) (fun _ => ?_)
  refine lv_iload_n hx hb d_O_end_8 rfl (lv_at hl 1 rfl) ?_
  refine lv_if_lt (tgt := 20) hx hb d_O_end_9 (by decide) (fun c_3 => ?_) (fun c_3 => ?_)
  · refine lv_iconst (v := 0) hx hb d_O_end_20 (by decide) ?_
    have hP9 := hP.sub (ws' := [(h0, .inr (7, [.int 0, .int 0, .int i_lasts, v_buffer, .int 0, .int i_documents, v_gone, v_first, v_many, v_lengths, v_authors, v_sums, v_row, v_made, .int i_madeSize, v_base, .int i_baseSize, v_text, .int i_textSize, .int i_textSteps, v_other, .int i_otherSize, v_piece, .int i_pieceSize, .int i_at, .int i_end, .int i_value]))]) [0] rfl
    have hD9 := hD.sub (ws' := [(h0, .inr (7, [.int 0, .int 0, .int i_lasts, v_buffer, .int 0, .int i_documents, v_gone, v_first, v_many, v_lengths, v_authors, v_sums, v_row, v_made, .int i_madeSize, v_base, .int i_baseSize, v_text, .int i_textSize, .int i_textSteps, v_other, .int i_otherSize, v_piece, .int i_pieceSize, .int i_at, .int i_end, .int i_value]))]) [0] (by decide) rfl
    have hK9 := hK.sub (tys' := []) [] rfl
    exact W.zret (v := 0) (ty := .boolean) hx hb hr rfl (fun t ht hW => ⟨⟨0, (), rfl, rfl, by rw [ht]; exact hP9, va_K.moved hW.alike hK9, hD9⟩, hS.F ht⟩) hS.2.2 d_O_end_21
  · refine lv_iload_n hx hb d_O_end_12 rfl (lv_at hl 1 rfl) ?_
    refine lv_aload_n hx hb d_O_end_13 rfl (lv_at hl 0 rfl) ?_
    refine va_get (D := (dC, dI)) (ci := 7) (v := .int 0) (C := R_O) (T := F_O) (N := 27) hx hb hw0 in_O hown hK hP 0 rfl rfl 4 (by decide) (hw0 (.fieldLink R_O 69 "TextKeeperModel" "size" "I") (List.mem_of_getElem? (i := 194) rfl)) (fun _ h9 => h9) rfl d_O_end_14 ?_
    refine lv_icmp_le (tgt := 22) hx hb d_O_end_17 (by decide) (fun c_4 => absurd c_4 (fun h9 => h1.elim (fun h => c_3 h) (fun h => Int32.not_le.mpr h h9))) (fun c_4 => ?_)
    refine lv_iconst (v := 0) hx hb d_O_end_20 (by decide) ?_
    have hP9 := hP.sub (ws' := [(h0, .inr (7, [.int 0, .int 0, .int i_lasts, v_buffer, .int 0, .int i_documents, v_gone, v_first, v_many, v_lengths, v_authors, v_sums, v_row, v_made, .int i_madeSize, v_base, .int i_baseSize, v_text, .int i_textSize, .int i_textSteps, v_other, .int i_otherSize, v_piece, .int i_pieceSize, .int i_at, .int i_end, .int i_value]))]) [0] rfl
    have hD9 := hD.sub (ws' := [(h0, .inr (7, [.int 0, .int 0, .int i_lasts, v_buffer, .int 0, .int i_documents, v_gone, v_first, v_many, v_lengths, v_authors, v_sums, v_row, v_made, .int i_madeSize, v_base, .int i_baseSize, v_text, .int i_textSize, .int i_textSteps, v_other, .int i_otherSize, v_piece, .int i_pieceSize, .int i_at, .int i_end, .int i_value]))]) [0] (by decide) rfl
    have hK9 := hK.sub (tys' := []) [] rfl
    exact W.zret (v := 0) (ty := .boolean) hx hb hr rfl (fun t ht hW => ⟨⟨0, (), rfl, rfl, by rw [ht]; exact hP9, va_K.moved hW.alike hK9, hD9⟩, hS.F ht⟩) hS.2.2 d_O_end_21
set_option maxHeartbeats 4000000 in
set_option maxRecDepth 100000 in
theorem m_cutAfter_T (l : Launch) (dC : Nat → ClassId) (dI : Nat → Nat → Nat) (sz : Nat) (h0 : Nat) (i_thrown : Int32) (i_lasts : Int32) (v_buffer : Value) (i_size : Int32) (i_documents : Int32) (v_gone : Value) (v_first : Value) (v_many : Value) (v_lengths : Value) (v_authors : Value) (v_sums : Value) (v_row : Value) (v_made : Value) (i_madeSize : Int32) (v_base : Value) (i_baseSize : Int32) (v_text : Value) (i_textSize : Int32) (i_textSteps : Int32) (v_other : Value) (i_otherSize : Int32) (v_piece : Value) (i_pieceSize : Int32) (i_at : Int32) (i_end : Int32) (i_value : Int32) (a1 : Int32) (h1 : ¬ a1 < 0) : Met l y_O_cutAfter k_O_cutAfter ({ frames := 1, cells := 0, slots := 0, locals := 21 } : Room) (va_Pc [.ref h0, .int a1] (pc_E (dC, dI) [(h0, .inr (7, [.int i_thrown, .int 0, .int i_lasts, v_buffer, .int i_size, .int i_documents, v_gone, v_first, v_many, v_lengths, v_authors, v_sums, v_row, v_made, .int i_madeSize, v_base, .int i_baseSize, v_text, .int i_textSize, .int i_textSteps, v_other, .int i_otherSize, v_piece, .int i_pieceSize, .int i_at, .int i_end, .int i_value]))] [] sz)) (va_Qi (fun (r : Int32) (_ : Unit) => r = 1) (fun (_ : Unit) t => at_E (dC, dI) (va_A [(h0, .inr (7, [.int i_thrown, .int 0, .int i_lasts, v_buffer, .int i_size, .int i_documents, v_gone, v_first, v_many, v_lengths, v_authors, v_sums, v_row, v_made, .int i_madeSize, v_base, .int i_baseSize, v_text, .int i_textSize, .int i_textSteps, v_other, .int i_otherSize, v_piece, .int i_pieceSize, .int i_at, .int i_end, .int i_value]))] sz) [(h0, .inr (7, [.int 0, .int 0, .int a1, v_buffer, .int i_size, .int i_documents, v_gone, v_first, v_many, v_lengths, v_authors, v_sums, v_row, v_made, .int i_madeSize, v_base, .int i_baseSize, v_text, .int i_textSize, .int i_textSteps, v_other, .int i_otherSize, v_piece, .int i_pieceSize, .int i_at, .int i_end, .int i_value]))] [] t) (va_A [(h0, .inr (7, [.int i_thrown, .int 0, .int i_lasts, v_buffer, .int i_size, .int i_documents, v_gone, v_first, v_many, v_lengths, v_authors, v_sums, v_row, v_made, .int i_madeSize, v_base, .int i_baseSize, v_text, .int i_textSize, .int i_textSteps, v_other, .int i_otherSize, v_piece, .int i_pieceSize, .int i_at, .int i_end, .int i_value]))] sz)) 0 0 (va_A [(h0, .inr (7, [.int i_thrown, .int 0, .int i_lasts, v_buffer, .int i_size, .int i_documents, v_gone, v_first, v_many, v_lengths, v_authors, v_sums, v_row, v_made, .int i_madeSize, v_base, .int i_baseSize, v_text, .int i_textSize, .int i_textSteps, v_other, .int i_otherSize, v_piece, .int i_pieceSize, .int i_at, .int i_end, .int i_value]))] sz) := by
  refine Met.ofW (cc := prog_9_method_40_code) (maxL := 2) (ret := (some .boolean)) (by decide) rfl ?_
  intro p e s m args below meth c s₁ B hml hv
  obtain ⟨rfl, hsz, hP, hK, hD0, hN⟩ := hv
  have hx := B.exec
  have hb := B.bytes
  have hr := B.returns
  have hts := atoms_spec (ws := k_O_cutAfter) B.pre
  have hw0 : ∀ w ∈ w0, w.before _ s = true := fun w h => hts w (List.mem_cons_of_mem _ h)
  have hown : s.vm.findClass R_O = some m.cls := findClass_of_methodNamed B.named
  have hlocks := B.notSynchronized
  subst hsz
  have hD := hD0.self (sz := s.heap.size)
  generalize hAe : va_A [(h0, .inr (7, [.int i_thrown, .int 0, .int i_lasts, v_buffer, .int i_size, .int i_documents, v_gone, v_first, v_many, v_lengths, v_authors, v_sums, v_row, v_made, .int i_madeSize, v_base, .int i_baseSize, v_text, .int i_textSize, .int i_textSteps, v_other, .int i_otherSize, v_piece, .int i_pieceSize, .int i_at, .int i_end, .int i_value]))] s.heap.size = A at hD ⊢
  have hA : ∀ q : Nat, s.heap.size ≤ q → A q := fun q h => by rw [← hAe]; exact Or.inr h
  have hS : va_S A s.heap s.heap [] := va_S.rf
  have hP : va_P (dC, dI) vwCl [(h0, .inr (7, [.int i_thrown, .int 0, .int i_lasts, v_buffer, .int i_size, .int i_documents, v_gone, v_first, v_many, v_lengths, v_authors, v_sums, v_row, v_made, .int i_madeSize, v_base, .int i_baseSize, v_text, .int i_textSize, .int i_textSteps, v_other, .int i_otherSize, v_piece, .int i_pieceSize, .int i_at, .int i_end, .int i_value]))] s.heap := hP
  have hl := lv_entry ([.ref h0, .int a1]) (n := 2) (Nat.le_of_ble_eq_true rfl)
  rw [lg_entry_eq]
  generalize (lg_sl ([.ref h0, .int a1]) ++ List.replicate (2 - (lg_sl ([.ref h0, .int a1])).length) Slot.unset).toArray = ls at hl ⊢
  have hl : lv_has ls 2 [(0, .ref h0), (1, .int a1)] := hl
  refine lv_aload_n hx hb d_O_cutAfter_0 rfl (lv_at hl 0 rfl) ?_
  refine lv_iconst (v := 1) hx hb d_O_cutAfter_1 (by decide) ?_
  have hPc := hP.sub (ws' := [(h0, .inr (7, [.int i_thrown, .int 0, .int i_lasts, v_buffer, .int i_size, .int i_documents, v_gone, v_first, v_many, v_lengths, v_authors, v_sums, v_row, v_made, .int i_madeSize, v_base, .int i_baseSize, v_text, .int i_textSize, .int i_textSteps, v_other, .int i_otherSize, v_piece, .int i_pieceSize, .int i_at, .int i_end, .int i_value]))]) [0] rfl
  have hKc := hK.sub (tys' := []) [] rfl
  have hDc := hD.sub (ws' := [(h0, .inr (7, [.int i_thrown, .int 0, .int i_lasts, v_buffer, .int i_size, .int i_documents, v_gone, v_first, v_many, v_lengths, v_authors, v_sums, v_row, v_made, .int i_madeSize, v_base, .int i_baseSize, v_text, .int i_textSize, .int i_textSteps, v_other, .int i_otherSize, v_piece, .int i_pieceSize, .int i_at, .int i_end, .int i_value]))]) [0] (by decide) rfl
  have hFc := va_free (wc := [(h0, .inr (7, [.int i_thrown, .int 0, .int i_lasts, v_buffer, .int i_size, .int i_documents, v_gone, v_first, v_many, v_lengths, v_authors, v_sums, v_row, v_made, .int i_madeSize, v_base, .int i_baseSize, v_text, .int i_textSize, .int i_textSteps, v_other, .int i_otherSize, v_piece, .int i_pieceSize, .int i_at, .int i_end, .int i_value]))]) hD hS hA [0] rfl
  refine va_calli (va_runV (As := [.int 1]) (rest := []) ⟨hx, hb, hml, hown, hw0⟩ (m_runs l dC dI s.heap.size h0 i_thrown i_lasts v_buffer i_size i_documents v_gone v_first v_many v_lengths v_authors v_sums v_row v_made i_madeSize v_base i_baseSize v_text i_textSize i_textSteps v_other i_otherSize v_piece i_pieceSize i_at i_end i_value 1) (cwV 1 hw0 (gd_V 176 177 178 173 179 rfl rfl rfl rfl rfl) rfl rfl rfl (by decide +kernel) ⟨by decide +kernel, by decide +kernel⟩) (prV_E hPc hKc hDc hN (va_recv hKc hPc (ci := 7) (q0 := 0) rfl rfl)) rfl rfl hl.1 rfl (lv_room (Nat.le_of_ble_eq_true rfl)) d_O_cutAfter_2 ⟨by decide +kernel, by decide +kernel⟩) hS (fun q _ h => hFc q h) hFc (fun r_1 u t H1 locs ht hvm hw hB hz1 hk1 hS => ?_)
  obtain ⟨hP1, hK1, hD1⟩ := hB
  rw [ht] at hP1
  have hK1 := va_K.moved hvm.symm hK1
  try dsimp only at hw
  obtain ⟨hP, hD⟩ := va_join (wr := []) (w1 := [(h0, .inr (7, [.int 0, .int 0, .int i_lasts, v_buffer, .int i_size, .int i_documents, v_gone, v_first, v_many, v_lengths, v_authors, v_sums, v_row, v_made, .int i_madeSize, v_base, .int i_baseSize, v_text, .int i_textSize, .int i_textSteps, v_other, .int i_otherSize, v_piece, .int i_pieceSize, .int i_at, .int i_end, .int i_value]))]) hP hD [0] [] rfl rfl (by decide) (by decide) hk1 hFc hP1 hD1
  generalize H1 = H at hP hS ⊢
  replace hP : va_P (dC, dI) vwCl [(h0, .inr (7, [.int 0, .int 0, .int i_lasts, v_buffer, .int i_size, .int i_documents, v_gone, v_first, v_many, v_lengths, v_authors, v_sums, v_row, v_made, .int i_madeSize, v_base, .int i_baseSize, v_text, .int i_textSize, .int i_textSteps, v_other, .int i_otherSize, v_piece, .int i_pieceSize, .int i_at, .int i_end, .int i_value]))] H := hP
  replace hD : va_D A [(h0, .inr (7, [.int 0, .int 0, .int i_lasts, v_buffer, .int i_size, .int i_documents, v_gone, v_first, v_many, v_lengths, v_authors, v_sums, v_row, v_made, .int i_madeSize, v_base, .int i_baseSize, v_text, .int i_textSize, .int i_textSteps, v_other, .int i_otherSize, v_piece, .int i_pieceSize, .int i_at, .int i_end, .int i_value]))] := hD
  replace hK : va_K (dC, dI) vwCl [] s := hK
  obtain rfl : r_1 = 1 := hw
  refine lv_if_eq (tgt := 12) hx hb d_O_cutAfter_5 (by decide) (fun h9 => absurd h9 (by decide +kernel)) (fun _ => ?_)
  refine lv_iload_n hx hb d_O_cutAfter_8 rfl (lv_at hl 1 rfl) ?_
  refine lv_if_ge (tgt := 14) hx hb d_O_cutAfter_9 (by decide) (fun c_3 => ?_) (fun c_3 => absurd (Int32.not_lt.mp h1) c_3)
  refine lv_aload_n hx hb d_O_cutAfter_14 rfl (lv_at hl 0 rfl) ?_
  refine lv_iload_n hx hb d_O_cutAfter_15 rfl (lv_at hl 1 rfl) ?_
  refine va_put (D := (dC, dI)) (ci := 7) (v := .int a1) (ty := .int) (C := R_O) (T := F_O) (N := 27) hx hb hw0 in_O ft_O tk_O nk_O hown hK hP hD hS 0 rfl rfl 2 (by decide) (hw0 (.fieldLink R_O 9 "TextKeeperModel" "lasts" "I") (List.mem_of_getElem? (i := 175) rfl)) (fun _ h9 => h9) rfl (by decide +kernel) rfl rfl (Nat.le_of_ble_eq_true rfl) d_O_cutAfter_16 (fun H locs hP hD hS => ?_)
  replace hP : va_P (dC, dI) vwCl [(h0, .inr (7, [.int 0, .int 0, .int a1, v_buffer, .int i_size, .int i_documents, v_gone, v_first, v_many, v_lengths, v_authors, v_sums, v_row, v_made, .int i_madeSize, v_base, .int i_baseSize, v_text, .int i_textSize, .int i_textSteps, v_other, .int i_otherSize, v_piece, .int i_pieceSize, .int i_at, .int i_end, .int i_value]))] H := hP
  replace hD : va_D A [(h0, .inr (7, [.int 0, .int 0, .int a1, v_buffer, .int i_size, .int i_documents, v_gone, v_first, v_many, v_lengths, v_authors, v_sums, v_row, v_made, .int i_madeSize, v_base, .int i_baseSize, v_text, .int i_textSize, .int i_textSteps, v_other, .int i_otherSize, v_piece, .int i_pieceSize, .int i_at, .int i_end, .int i_value]))] := hD
  refine lv_iconst (v := 1) hx hb d_O_cutAfter_19 (by decide) ?_
  have hP9 := hP.sub (ws' := [(h0, .inr (7, [.int 0, .int 0, .int a1, v_buffer, .int i_size, .int i_documents, v_gone, v_first, v_many, v_lengths, v_authors, v_sums, v_row, v_made, .int i_madeSize, v_base, .int i_baseSize, v_text, .int i_textSize, .int i_textSteps, v_other, .int i_otherSize, v_piece, .int i_pieceSize, .int i_at, .int i_end, .int i_value]))]) [0] rfl
  have hD9 := hD.sub (ws' := [(h0, .inr (7, [.int 0, .int 0, .int a1, v_buffer, .int i_size, .int i_documents, v_gone, v_first, v_many, v_lengths, v_authors, v_sums, v_row, v_made, .int i_madeSize, v_base, .int i_baseSize, v_text, .int i_textSize, .int i_textSteps, v_other, .int i_otherSize, v_piece, .int i_pieceSize, .int i_at, .int i_end, .int i_value]))]) [0] (by decide) rfl
  have hK9 := hK.sub (tys' := []) [] rfl
  exact W.zret (v := 1) (ty := .boolean) hx hb hr rfl (fun t ht hW => ⟨⟨1, (), rfl, rfl, by rw [ht]; exact hP9, va_K.moved hW.alike hK9, hD9⟩, hS.F ht⟩) hS.2.2 d_O_cutAfter_20
set_option maxHeartbeats 4000000 in
set_option maxRecDepth 100000 in
theorem m_cutAfter_F (l : Launch) (dC : Nat → ClassId) (dI : Nat → Nat → Nat) (sz : Nat) (h0 : Nat) (i_thrown : Int32) (i_lasts : Int32) (v_buffer : Value) (i_size : Int32) (i_documents : Int32) (v_gone : Value) (v_first : Value) (v_many : Value) (v_lengths : Value) (v_authors : Value) (v_sums : Value) (v_row : Value) (v_made : Value) (i_madeSize : Int32) (v_base : Value) (i_baseSize : Int32) (v_text : Value) (i_textSize : Int32) (i_textSteps : Int32) (v_other : Value) (i_otherSize : Int32) (v_piece : Value) (i_pieceSize : Int32) (i_at : Int32) (i_end : Int32) (i_value : Int32) (a1 : Int32) (h1 : a1 < 0) : Met l y_O_cutAfter k_O_cutAfter ({ frames := 1, cells := 0, slots := 0, locals := 21 } : Room) (va_Pc [.ref h0, .int a1] (pc_E (dC, dI) [(h0, .inr (7, [.int i_thrown, .int 0, .int i_lasts, v_buffer, .int i_size, .int i_documents, v_gone, v_first, v_many, v_lengths, v_authors, v_sums, v_row, v_made, .int i_madeSize, v_base, .int i_baseSize, v_text, .int i_textSize, .int i_textSteps, v_other, .int i_otherSize, v_piece, .int i_pieceSize, .int i_at, .int i_end, .int i_value]))] [] sz)) (va_Qi (fun (r : Int32) (_ : Unit) => r = 0) (fun (_ : Unit) t => at_E (dC, dI) (va_A [(h0, .inr (7, [.int i_thrown, .int 0, .int i_lasts, v_buffer, .int i_size, .int i_documents, v_gone, v_first, v_many, v_lengths, v_authors, v_sums, v_row, v_made, .int i_madeSize, v_base, .int i_baseSize, v_text, .int i_textSize, .int i_textSteps, v_other, .int i_otherSize, v_piece, .int i_pieceSize, .int i_at, .int i_end, .int i_value]))] sz) [(h0, .inr (7, [.int 0, .int 0, .int i_lasts, v_buffer, .int i_size, .int i_documents, v_gone, v_first, v_many, v_lengths, v_authors, v_sums, v_row, v_made, .int i_madeSize, v_base, .int i_baseSize, v_text, .int i_textSize, .int i_textSteps, v_other, .int i_otherSize, v_piece, .int i_pieceSize, .int i_at, .int i_end, .int i_value]))] [] t) (va_A [(h0, .inr (7, [.int i_thrown, .int 0, .int i_lasts, v_buffer, .int i_size, .int i_documents, v_gone, v_first, v_many, v_lengths, v_authors, v_sums, v_row, v_made, .int i_madeSize, v_base, .int i_baseSize, v_text, .int i_textSize, .int i_textSteps, v_other, .int i_otherSize, v_piece, .int i_pieceSize, .int i_at, .int i_end, .int i_value]))] sz)) 0 0 (va_A [(h0, .inr (7, [.int i_thrown, .int 0, .int i_lasts, v_buffer, .int i_size, .int i_documents, v_gone, v_first, v_many, v_lengths, v_authors, v_sums, v_row, v_made, .int i_madeSize, v_base, .int i_baseSize, v_text, .int i_textSize, .int i_textSteps, v_other, .int i_otherSize, v_piece, .int i_pieceSize, .int i_at, .int i_end, .int i_value]))] sz) := by
  refine Met.ofW (cc := prog_9_method_40_code) (maxL := 2) (ret := (some .boolean)) (by decide) rfl ?_
  intro p e s m args below meth c s₁ B hml hv
  obtain ⟨rfl, hsz, hP, hK, hD0, hN⟩ := hv
  have hx := B.exec
  have hb := B.bytes
  have hr := B.returns
  have hts := atoms_spec (ws := k_O_cutAfter) B.pre
  have hw0 : ∀ w ∈ w0, w.before _ s = true := fun w h => hts w (List.mem_cons_of_mem _ h)
  have hown : s.vm.findClass R_O = some m.cls := findClass_of_methodNamed B.named
  have hlocks := B.notSynchronized
  subst hsz
  have hD := hD0.self (sz := s.heap.size)
  generalize hAe : va_A [(h0, .inr (7, [.int i_thrown, .int 0, .int i_lasts, v_buffer, .int i_size, .int i_documents, v_gone, v_first, v_many, v_lengths, v_authors, v_sums, v_row, v_made, .int i_madeSize, v_base, .int i_baseSize, v_text, .int i_textSize, .int i_textSteps, v_other, .int i_otherSize, v_piece, .int i_pieceSize, .int i_at, .int i_end, .int i_value]))] s.heap.size = A at hD ⊢
  have hA : ∀ q : Nat, s.heap.size ≤ q → A q := fun q h => by rw [← hAe]; exact Or.inr h
  have hS : va_S A s.heap s.heap [] := va_S.rf
  have hP : va_P (dC, dI) vwCl [(h0, .inr (7, [.int i_thrown, .int 0, .int i_lasts, v_buffer, .int i_size, .int i_documents, v_gone, v_first, v_many, v_lengths, v_authors, v_sums, v_row, v_made, .int i_madeSize, v_base, .int i_baseSize, v_text, .int i_textSize, .int i_textSteps, v_other, .int i_otherSize, v_piece, .int i_pieceSize, .int i_at, .int i_end, .int i_value]))] s.heap := hP
  have hl := lv_entry ([.ref h0, .int a1]) (n := 2) (Nat.le_of_ble_eq_true rfl)
  rw [lg_entry_eq]
  generalize (lg_sl ([.ref h0, .int a1]) ++ List.replicate (2 - (lg_sl ([.ref h0, .int a1])).length) Slot.unset).toArray = ls at hl ⊢
  have hl : lv_has ls 2 [(0, .ref h0), (1, .int a1)] := hl
  refine lv_aload_n hx hb d_O_cutAfter_0 rfl (lv_at hl 0 rfl) ?_
  refine lv_iconst (v := 1) hx hb d_O_cutAfter_1 (by decide) ?_
  have hPc := hP.sub (ws' := [(h0, .inr (7, [.int i_thrown, .int 0, .int i_lasts, v_buffer, .int i_size, .int i_documents, v_gone, v_first, v_many, v_lengths, v_authors, v_sums, v_row, v_made, .int i_madeSize, v_base, .int i_baseSize, v_text, .int i_textSize, .int i_textSteps, v_other, .int i_otherSize, v_piece, .int i_pieceSize, .int i_at, .int i_end, .int i_value]))]) [0] rfl
  have hKc := hK.sub (tys' := []) [] rfl
  have hDc := hD.sub (ws' := [(h0, .inr (7, [.int i_thrown, .int 0, .int i_lasts, v_buffer, .int i_size, .int i_documents, v_gone, v_first, v_many, v_lengths, v_authors, v_sums, v_row, v_made, .int i_madeSize, v_base, .int i_baseSize, v_text, .int i_textSize, .int i_textSteps, v_other, .int i_otherSize, v_piece, .int i_pieceSize, .int i_at, .int i_end, .int i_value]))]) [0] (by decide) rfl
  have hFc := va_free (wc := [(h0, .inr (7, [.int i_thrown, .int 0, .int i_lasts, v_buffer, .int i_size, .int i_documents, v_gone, v_first, v_many, v_lengths, v_authors, v_sums, v_row, v_made, .int i_madeSize, v_base, .int i_baseSize, v_text, .int i_textSize, .int i_textSteps, v_other, .int i_otherSize, v_piece, .int i_pieceSize, .int i_at, .int i_end, .int i_value]))]) hD hS hA [0] rfl
  refine va_calli (va_runV (As := [.int 1]) (rest := []) ⟨hx, hb, hml, hown, hw0⟩ (m_runs l dC dI s.heap.size h0 i_thrown i_lasts v_buffer i_size i_documents v_gone v_first v_many v_lengths v_authors v_sums v_row v_made i_madeSize v_base i_baseSize v_text i_textSize i_textSteps v_other i_otherSize v_piece i_pieceSize i_at i_end i_value 1) (cwV 1 hw0 (gd_V 176 177 178 173 179 rfl rfl rfl rfl rfl) rfl rfl rfl (by decide +kernel) ⟨by decide +kernel, by decide +kernel⟩) (prV_E hPc hKc hDc hN (va_recv hKc hPc (ci := 7) (q0 := 0) rfl rfl)) rfl rfl hl.1 rfl (lv_room (Nat.le_of_ble_eq_true rfl)) d_O_cutAfter_2 ⟨by decide +kernel, by decide +kernel⟩) hS (fun q _ h => hFc q h) hFc (fun r_1 u t H1 locs ht hvm hw hB hz1 hk1 hS => ?_)
  obtain ⟨hP1, hK1, hD1⟩ := hB
  rw [ht] at hP1
  have hK1 := va_K.moved hvm.symm hK1
  try dsimp only at hw
  obtain ⟨hP, hD⟩ := va_join (wr := []) (w1 := [(h0, .inr (7, [.int 0, .int 0, .int i_lasts, v_buffer, .int i_size, .int i_documents, v_gone, v_first, v_many, v_lengths, v_authors, v_sums, v_row, v_made, .int i_madeSize, v_base, .int i_baseSize, v_text, .int i_textSize, .int i_textSteps, v_other, .int i_otherSize, v_piece, .int i_pieceSize, .int i_at, .int i_end, .int i_value]))]) hP hD [0] [] rfl rfl (by decide) (by decide) hk1 hFc hP1 hD1
  generalize H1 = H at hP hS ⊢
  replace hP : va_P (dC, dI) vwCl [(h0, .inr (7, [.int 0, .int 0, .int i_lasts, v_buffer, .int i_size, .int i_documents, v_gone, v_first, v_many, v_lengths, v_authors, v_sums, v_row, v_made, .int i_madeSize, v_base, .int i_baseSize, v_text, .int i_textSize, .int i_textSteps, v_other, .int i_otherSize, v_piece, .int i_pieceSize, .int i_at, .int i_end, .int i_value]))] H := hP
  replace hD : va_D A [(h0, .inr (7, [.int 0, .int 0, .int i_lasts, v_buffer, .int i_size, .int i_documents, v_gone, v_first, v_many, v_lengths, v_authors, v_sums, v_row, v_made, .int i_madeSize, v_base, .int i_baseSize, v_text, .int i_textSize, .int i_textSteps, v_other, .int i_otherSize, v_piece, .int i_pieceSize, .int i_at, .int i_end, .int i_value]))] := hD
  replace hK : va_K (dC, dI) vwCl [] s := hK
  obtain rfl : r_1 = 1 := hw
  refine lv_if_eq (tgt := 12) hx hb d_O_cutAfter_5 (by decide) (fun h9 => absurd h9 (by decide +kernel)) (fun _ => ?_)
  refine lv_iload_n hx hb d_O_cutAfter_8 rfl (lv_at hl 1 rfl) ?_
  refine lv_if_ge (tgt := 14) hx hb d_O_cutAfter_9 (by decide) (fun c_3 => absurd h1 (Int32.not_lt.mpr c_3)) (fun c_3 => ?_)
  refine lv_iconst (v := 0) hx hb d_O_cutAfter_12 (by decide) ?_
  have hP9 := hP.sub (ws' := [(h0, .inr (7, [.int 0, .int 0, .int i_lasts, v_buffer, .int i_size, .int i_documents, v_gone, v_first, v_many, v_lengths, v_authors, v_sums, v_row, v_made, .int i_madeSize, v_base, .int i_baseSize, v_text, .int i_textSize, .int i_textSteps, v_other, .int i_otherSize, v_piece, .int i_pieceSize, .int i_at, .int i_end, .int i_value]))]) [0] rfl
  have hD9 := hD.sub (ws' := [(h0, .inr (7, [.int 0, .int 0, .int i_lasts, v_buffer, .int i_size, .int i_documents, v_gone, v_first, v_many, v_lengths, v_authors, v_sums, v_row, v_made, .int i_madeSize, v_base, .int i_baseSize, v_text, .int i_textSize, .int i_textSteps, v_other, .int i_otherSize, v_piece, .int i_pieceSize, .int i_at, .int i_end, .int i_value]))]) [0] (by decide) rfl
  have hK9 := hK.sub (tys' := []) [] rfl
  exact W.zret (v := 0) (ty := .boolean) hx hb hr rfl (fun t ht hW => ⟨⟨0, (), rfl, rfl, by rw [ht]; exact hP9, va_K.moved hW.alike hK9, hD9⟩, hS.F ht⟩) hS.2.2 d_O_cutAfter_13
