set_option maxHeartbeats 4000000 in
set_option maxRecDepth 100000 in
theorem o_runs_U (l : Launch) (dC : Nat → ClassId) (dI : Nat → Nat → Nat) (sz : Nat) (h0 : Nat) (i_thrown : Int32) (i_lasts : Int32) (v_buffer : Value) (i_size : Int32) (i_documents : Int32) (v_gone : Value) (v_first : Value) (v_many : Value) (v_lengths : Value) (v_authors : Value) (v_sums : Value) (v_row : Value) (v_made : Value) (i_madeSize : Int32) (v_base : Value) (i_baseSize : Int32) (v_text : Value) (i_textSize : Int32) (i_textSteps : Int32) (v_other : Value) (i_otherSize : Int32) (v_piece : Value) (i_pieceSize : Int32) (i_at : Int32) (i_end : Int32) (i_value : Int32) (a1 : Int32)  : Met l y_O_runs k_O_runs ({ frames := 0, cells := 0, slots := 0, locals := 0 } : Room) (va_Pc [.ref h0, .int a1] (pc_E (dC, dI) [(h0, .inr (7, [.int i_thrown, .int 0, .int i_lasts, v_buffer, .int i_size, .int i_documents, v_gone, v_first, v_many, v_lengths, v_authors, v_sums, v_row, v_made, .int i_madeSize, v_base, .int i_baseSize, v_text, .int i_textSize, .int i_textSteps, v_other, .int i_otherSize, v_piece, .int i_pieceSize, .int i_at, .int i_end, .int i_value]))] [] sz)) (va_Qi (fun (r : Int32) (_ : Unit) => r = 1) (fun (_ : Unit) t => at_E (dC, dI) (va_A [(h0, .inr (7, [.int i_thrown, .int 0, .int i_lasts, v_buffer, .int i_size, .int i_documents, v_gone, v_first, v_many, v_lengths, v_authors, v_sums, v_row, v_made, .int i_madeSize, v_base, .int i_baseSize, v_text, .int i_textSize, .int i_textSteps, v_other, .int i_otherSize, v_piece, .int i_pieceSize, .int i_at, .int i_end, .int i_value]))] sz) [(h0, .inr (7, [.int 0, .int 0, .int i_lasts, v_buffer, .int i_size, .int i_documents, v_gone, v_first, v_many, v_lengths, v_authors, v_sums, v_row, v_made, .int i_madeSize, v_base, .int i_baseSize, v_text, .int i_textSize, .int i_textSteps, v_other, .int i_otherSize, v_piece, .int i_pieceSize, .int i_at, .int i_end, .int i_value]))] [] t) (va_A [(h0, .inr (7, [.int i_thrown, .int 0, .int i_lasts, v_buffer, .int i_size, .int i_documents, v_gone, v_first, v_many, v_lengths, v_authors, v_sums, v_row, v_made, .int i_madeSize, v_base, .int i_baseSize, v_text, .int i_textSize, .int i_textSteps, v_other, .int i_otherSize, v_piece, .int i_pieceSize, .int i_at, .int i_end, .int i_value]))] sz)) 0 0 (va_A [(h0, .inr (7, [.int i_thrown, .int 0, .int i_lasts, v_buffer, .int i_size, .int i_documents, v_gone, v_first, v_many, v_lengths, v_authors, v_sums, v_row, v_made, .int i_madeSize, v_base, .int i_baseSize, v_text, .int i_textSize, .int i_textSteps, v_other, .int i_otherSize, v_piece, .int i_pieceSize, .int i_at, .int i_end, .int i_value]))] sz) := by
  refine Met.ofW (cc := prog_9_method_3_code) (maxL := 2) (ret := (some .boolean)) (by decide) rfl ?_
  intro p e s m args below meth c s₁ B hml hv
  obtain ⟨rfl, hsz, hP, hK, hD0, hN⟩ := hv
  have hx := B.exec
  have hb := B.bytes
  have hr := B.returns
  have hts := atoms_spec (ws := k_O_runs) B.pre
  have hw0 : ∀ w ∈ w0, w.before _ s = true := fun w h => hts w (List.mem_cons_of_mem _ h)
  have hown : s.vm.findClass R_O = some m.cls := findClass_of_methodNamed B.named
  have hlocks := B.notSynchronized
  subst hsz
  have hD := hD0.self (sz := s.heap.size)
  generalize hAe : va_A [(h0, .inr (7, [.int i_thrown, .int 0, .int i_lasts, v_buffer, .int i_size, .int i_documents, v_gone, v_first, v_many, v_lengths, v_authors, v_sums, v_row, v_made, .int i_madeSize, v_base, .int i_baseSize, v_text, .int i_textSize, .int i_textSteps, v_other, .int i_otherSize, v_piece, .int i_pieceSize, .int i_at, .int i_end, .int i_value]))] s.heap.size = A at hD ⊢
  have hA : ∀ q : Nat, s.heap.size ≤ q → A q := fun q h => by rw [← hAe]; exact Or.inr h
  have hS : va_S A s.heap s.heap [] := va_S.rf
  have hP : va_P (dC, dI) vwCl [(h0, .inr (7, [.int i_thrown, .int 0, .int i_lasts, v_buffer, .int i_size, .int i_documents, v_gone, v_first, v_many, v_lengths, v_authors, v_sums, v_row, v_made, .int i_madeSize, v_base, .int i_baseSize, v_text, .int i_textSize, .int i_textSteps, v_other, .int i_otherSize, v_piece, .int i_pieceSize, .int i_at, .int i_end, .int i_value]))] s.heap := hP
  have hl := lv_entry ([.ref h0, .int a1]) (n := 2) (Nat.le_of_ble_eq_true rfl)
  rw [lg_entry_eq]
  generalize (lg_sl ([.ref h0, .int a1]) ++ List.replicate (2 - (lg_sl ([.ref h0, .int a1])).length) Slot.unset).toArray = ls at hl ⊢
  have hl : lv_has ls 2 [(0, .ref h0), (1, .int a1)] := hl
  refine lv_aload_n hx hb d_O_runs_0 rfl (lv_at hl 0 rfl) ?_
  refine lv_aload_n hx hb d_O_runs_1 rfl (lv_at hl 0 rfl) ?_
  refine va_get (D := (dC, dI)) (ci := 7) (v := .int 0) (C := R_O) (T := F_O) (N := 27) hx hb hw0 in_O hown hK hP 0 rfl rfl 1 (by decide) (hw0 (.fieldLink R_O 65 "TextKeeperModel" "down" "Z") (List.mem_of_getElem? (i := 247) rfl)) (fun _ h9 => h9) rfl d_O_runs_2 ?_
  refine lv_if_eq (tgt := 12) hx hb d_O_runs_5 (by decide) (fun _ => ?_) (fun h9 => absurd h9 (by decide +kernel))
  refine lv_iconst (v := 0) hx hb d_O_runs_12 (by decide) ?_
  refine va_put (D := (dC, dI)) (ci := 7) (v := .int 0) (ty := .int) (C := R_O) (T := F_O) (N := 27) hx hb hw0 in_O ft_O tk_O nk_O hown hK hP hD hS 0 rfl rfl 0 (by decide) (hw0 (.fieldLink R_O 62 "TextKeeperModel" "thrown" "I") (List.mem_of_getElem? (i := 248) rfl)) (fun _ h9 => h9) rfl (by decide +kernel) rfl rfl (Nat.le_of_ble_eq_true rfl) d_O_runs_13 (fun H locs hP hD hS => ?_)
  replace hP : va_P (dC, dI) vwCl [(h0, .inr (7, [.int 0, .int 0, .int i_lasts, v_buffer, .int i_size, .int i_documents, v_gone, v_first, v_many, v_lengths, v_authors, v_sums, v_row, v_made, .int i_madeSize, v_base, .int i_baseSize, v_text, .int i_textSize, .int i_textSteps, v_other, .int i_otherSize, v_piece, .int i_pieceSize, .int i_at, .int i_end, .int i_value]))] H := hP
  replace hD : va_D A [(h0, .inr (7, [.int 0, .int 0, .int i_lasts, v_buffer, .int i_size, .int i_documents, v_gone, v_first, v_many, v_lengths, v_authors, v_sums, v_row, v_made, .int i_madeSize, v_base, .int i_baseSize, v_text, .int i_textSize, .int i_textSteps, v_other, .int i_otherSize, v_piece, .int i_pieceSize, .int i_at, .int i_end, .int i_value]))] := hD
  refine lv_aload_n hx hb d_O_runs_16 rfl (lv_at hl 0 rfl) ?_
  refine va_get (D := (dC, dI)) (ci := 7) (v := .int 0) (C := R_O) (T := F_O) (N := 27) hx hb hw0 in_O hown hK hP 0 rfl rfl 1 (by decide) (hw0 (.fieldLink R_O 65 "TextKeeperModel" "down" "Z") (List.mem_of_getElem? (i := 247) rfl)) (fun _ h9 => h9) rfl d_O_runs_17 ?_
  refine lv_if_ne (tgt := 27) hx hb d_O_runs_20 (by decide) (fun h9 => absurd h9 (by decide +kernel)) (fun _ => ?_)
  refine lv_iconst (v := 1) hx hb d_O_runs_23 (by decide) ?_
  refine lv_goto (tgt := 28) hx hb d_O_runs_24 (by decide) ?_
  have hP9 := hP.sub (ws' := [(h0, .inr (7, [.int 0, .int 0, .int i_lasts, v_buffer, .int i_size, .int i_documents, v_gone, v_first, v_many, v_lengths, v_authors, v_sums, v_row, v_made, .int i_madeSize, v_base, .int i_baseSize, v_text, .int i_textSize, .int i_textSteps, v_other, .int i_otherSize, v_piece, .int i_pieceSize, .int i_at, .int i_end, .int i_value]))]) [0] rfl
  have hD9 := hD.sub (ws' := [(h0, .inr (7, [.int 0, .int 0, .int i_lasts, v_buffer, .int i_size, .int i_documents, v_gone, v_first, v_many, v_lengths, v_authors, v_sums, v_row, v_made, .int i_madeSize, v_base, .int i_baseSize, v_text, .int i_textSize, .int i_textSteps, v_other, .int i_otherSize, v_piece, .int i_pieceSize, .int i_at, .int i_end, .int i_value]))]) [0] (by decide) rfl
  have hK9 := hK.sub (tys' := []) [] rfl
  exact W.zret (v := 1) (ty := .boolean) hx hb hr rfl (fun t ht hW => ⟨⟨1, (), rfl, rfl, by rw [ht]; exact hP9, va_K.moved hW.alike hK9, hD9⟩, hS.F ht⟩) hS.2.2 d_O_runs_28
set_option maxHeartbeats 4000000 in
set_option maxRecDepth 100000 in
theorem o_runs_D (l : Launch) (dC : Nat → ClassId) (dI : Nat → Nat → Nat) (sz : Nat) (h0 : Nat) (i_thrown : Int32) (i_lasts : Int32) (v_buffer : Value) (i_size : Int32) (i_documents : Int32) (v_gone : Value) (v_first : Value) (v_many : Value) (v_lengths : Value) (v_authors : Value) (v_sums : Value) (v_row : Value) (v_made : Value) (i_madeSize : Int32) (v_base : Value) (i_baseSize : Int32) (v_text : Value) (i_textSize : Int32) (i_textSteps : Int32) (v_other : Value) (i_otherSize : Int32) (v_piece : Value) (i_pieceSize : Int32) (i_at : Int32) (i_end : Int32) (i_value : Int32) (a1 : Int32)  : Met l y_O_runs k_O_runs ({ frames := 0, cells := 0, slots := 0, locals := 0 } : Room) (va_Pc [.ref h0, .int a1] (pc_E (dC, dI) [(h0, .inr (7, [.int i_thrown, .int 1, .int i_lasts, v_buffer, .int i_size, .int i_documents, v_gone, v_first, v_many, v_lengths, v_authors, v_sums, v_row, v_made, .int i_madeSize, v_base, .int i_baseSize, v_text, .int i_textSize, .int i_textSteps, v_other, .int i_otherSize, v_piece, .int i_pieceSize, .int i_at, .int i_end, .int i_value]))] [] sz)) (va_Qi (fun (r : Int32) (_ : Unit) => r = 0) (fun (_ : Unit) t => at_E (dC, dI) (va_A [(h0, .inr (7, [.int i_thrown, .int 1, .int i_lasts, v_buffer, .int i_size, .int i_documents, v_gone, v_first, v_many, v_lengths, v_authors, v_sums, v_row, v_made, .int i_madeSize, v_base, .int i_baseSize, v_text, .int i_textSize, .int i_textSteps, v_other, .int i_otherSize, v_piece, .int i_pieceSize, .int i_at, .int i_end, .int i_value]))] sz) [(h0, .inr (7, [.int a1, .int 1, .int i_lasts, v_buffer, .int i_size, .int i_documents, v_gone, v_first, v_many, v_lengths, v_authors, v_sums, v_row, v_made, .int i_madeSize, v_base, .int i_baseSize, v_text, .int i_textSize, .int i_textSteps, v_other, .int i_otherSize, v_piece, .int i_pieceSize, .int i_at, .int i_end, .int i_value]))] [] t) (va_A [(h0, .inr (7, [.int i_thrown, .int 1, .int i_lasts, v_buffer, .int i_size, .int i_documents, v_gone, v_first, v_many, v_lengths, v_authors, v_sums, v_row, v_made, .int i_madeSize, v_base, .int i_baseSize, v_text, .int i_textSize, .int i_textSteps, v_other, .int i_otherSize, v_piece, .int i_pieceSize, .int i_at, .int i_end, .int i_value]))] sz)) 0 0 (va_A [(h0, .inr (7, [.int i_thrown, .int 1, .int i_lasts, v_buffer, .int i_size, .int i_documents, v_gone, v_first, v_many, v_lengths, v_authors, v_sums, v_row, v_made, .int i_madeSize, v_base, .int i_baseSize, v_text, .int i_textSize, .int i_textSteps, v_other, .int i_otherSize, v_piece, .int i_pieceSize, .int i_at, .int i_end, .int i_value]))] sz) := by
  refine Met.ofW (cc := prog_9_method_3_code) (maxL := 2) (ret := (some .boolean)) (by decide) rfl ?_
  intro p e s m args below meth c s₁ B hml hv
  obtain ⟨rfl, hsz, hP, hK, hD0, hN⟩ := hv
  have hx := B.exec
  have hb := B.bytes
  have hr := B.returns
  have hts := atoms_spec (ws := k_O_runs) B.pre
  have hw0 : ∀ w ∈ w0, w.before _ s = true := fun w h => hts w (List.mem_cons_of_mem _ h)
  have hown : s.vm.findClass R_O = some m.cls := findClass_of_methodNamed B.named
  have hlocks := B.notSynchronized
  subst hsz
  have hD := hD0.self (sz := s.heap.size)
  generalize hAe : va_A [(h0, .inr (7, [.int i_thrown, .int 1, .int i_lasts, v_buffer, .int i_size, .int i_documents, v_gone, v_first, v_many, v_lengths, v_authors, v_sums, v_row, v_made, .int i_madeSize, v_base, .int i_baseSize, v_text, .int i_textSize, .int i_textSteps, v_other, .int i_otherSize, v_piece, .int i_pieceSize, .int i_at, .int i_end, .int i_value]))] s.heap.size = A at hD ⊢
  have hA : ∀ q : Nat, s.heap.size ≤ q → A q := fun q h => by rw [← hAe]; exact Or.inr h
  have hS : va_S A s.heap s.heap [] := va_S.rf
  have hP : va_P (dC, dI) vwCl [(h0, .inr (7, [.int i_thrown, .int 1, .int i_lasts, v_buffer, .int i_size, .int i_documents, v_gone, v_first, v_many, v_lengths, v_authors, v_sums, v_row, v_made, .int i_madeSize, v_base, .int i_baseSize, v_text, .int i_textSize, .int i_textSteps, v_other, .int i_otherSize, v_piece, .int i_pieceSize, .int i_at, .int i_end, .int i_value]))] s.heap := hP
  have hl := lv_entry ([.ref h0, .int a1]) (n := 2) (Nat.le_of_ble_eq_true rfl)
  rw [lg_entry_eq]
  generalize (lg_sl ([.ref h0, .int a1]) ++ List.replicate (2 - (lg_sl ([.ref h0, .int a1])).length) Slot.unset).toArray = ls at hl ⊢
  have hl : lv_has ls 2 [(0, .ref h0), (1, .int a1)] := hl
  refine lv_aload_n hx hb d_O_runs_0 rfl (lv_at hl 0 rfl) ?_
  refine lv_aload_n hx hb d_O_runs_1 rfl (lv_at hl 0 rfl) ?_
  refine va_get (D := (dC, dI)) (ci := 7) (v := .int 1) (C := R_O) (T := F_O) (N := 27) hx hb hw0 in_O hown hK hP 0 rfl rfl 1 (by decide) (hw0 (.fieldLink R_O 65 "TextKeeperModel" "down" "Z") (List.mem_of_getElem? (i := 247) rfl)) (fun _ h9 => h9) rfl d_O_runs_2 ?_
  refine lv_if_eq (tgt := 12) hx hb d_O_runs_5 (by decide) (fun h9 => absurd h9 (by decide +kernel)) (fun _ => ?_)
  refine lv_iload_n hx hb d_O_runs_8 rfl (lv_at hl 1 rfl) ?_
  refine lv_goto (tgt := 13) hx hb d_O_runs_9 (by decide) ?_
  refine va_put (D := (dC, dI)) (ci := 7) (v := .int a1) (ty := .int) (C := R_O) (T := F_O) (N := 27) hx hb hw0 in_O ft_O tk_O nk_O hown hK hP hD hS 0 rfl rfl 0 (by decide) (hw0 (.fieldLink R_O 62 "TextKeeperModel" "thrown" "I") (List.mem_of_getElem? (i := 248) rfl)) (fun _ h9 => h9) rfl (by decide +kernel) rfl rfl (Nat.le_of_ble_eq_true rfl) d_O_runs_13 (fun H locs hP hD hS => ?_)
  replace hP : va_P (dC, dI) vwCl [(h0, .inr (7, [.int a1, .int 1, .int i_lasts, v_buffer, .int i_size, .int i_documents, v_gone, v_first, v_many, v_lengths, v_authors, v_sums, v_row, v_made, .int i_madeSize, v_base, .int i_baseSize, v_text, .int i_textSize, .int i_textSteps, v_other, .int i_otherSize, v_piece, .int i_pieceSize, .int i_at, .int i_end, .int i_value]))] H := hP
  replace hD : va_D A [(h0, .inr (7, [.int a1, .int 1, .int i_lasts, v_buffer, .int i_size, .int i_documents, v_gone, v_first, v_many, v_lengths, v_authors, v_sums, v_row, v_made, .int i_madeSize, v_base, .int i_baseSize, v_text, .int i_textSize, .int i_textSteps, v_other, .int i_otherSize, v_piece, .int i_pieceSize, .int i_at, .int i_end, .int i_value]))] := hD
  refine lv_aload_n hx hb d_O_runs_16 rfl (lv_at hl 0 rfl) ?_
  refine va_get (D := (dC, dI)) (ci := 7) (v := .int 1) (C := R_O) (T := F_O) (N := 27) hx hb hw0 in_O hown hK hP 0 rfl rfl 1 (by decide) (hw0 (.fieldLink R_O 65 "TextKeeperModel" "down" "Z") (List.mem_of_getElem? (i := 247) rfl)) (fun _ h9 => h9) rfl d_O_runs_17 ?_
  refine lv_if_ne (tgt := 27) hx hb d_O_runs_20 (by decide) (fun _ => ?_) (fun h9 => absurd h9 (by decide +kernel))
  refine lv_iconst (v := 0) hx hb d_O_runs_27 (by decide) ?_
  have hP9 := hP.sub (ws' := [(h0, .inr (7, [.int a1, .int 1, .int i_lasts, v_buffer, .int i_size, .int i_documents, v_gone, v_first, v_many, v_lengths, v_authors, v_sums, v_row, v_made, .int i_madeSize, v_base, .int i_baseSize, v_text, .int i_textSize, .int i_textSteps, v_other, .int i_otherSize, v_piece, .int i_pieceSize, .int i_at, .int i_end, .int i_value]))]) [0] rfl
  have hD9 := hD.sub (ws' := [(h0, .inr (7, [.int a1, .int 1, .int i_lasts, v_buffer, .int i_size, .int i_documents, v_gone, v_first, v_many, v_lengths, v_authors, v_sums, v_row, v_made, .int i_madeSize, v_base, .int i_baseSize, v_text, .int i_textSize, .int i_textSteps, v_other, .int i_otherSize, v_piece, .int i_pieceSize, .int i_at, .int i_end, .int i_value]))]) [0] (by decide) rfl
  have hK9 := hK.sub (tys' := []) [] rfl
  exact W.zret (v := 0) (ty := .boolean) hx hb hr rfl (fun t ht hW => ⟨⟨0, (), rfl, rfl, by rw [ht]; exact hP9, va_K.moved hW.alike hK9, hD9⟩, hS.F ht⟩) hS.2.2 d_O_runs_28
set_option maxHeartbeats 4000000 in
set_option maxRecDepth 100000 in
theorem o_writes_T (l : Launch) (dC : Nat → ClassId) (dI : Nat → Nat → Nat) (sz : Nat) (h0 : Nat) (i_thrown : Int32) (i_down : Int32) (v_buffer : Value) (i_size : Int32) (i_documents : Int32) (v_gone : Value) (v_first : Value) (v_many : Value) (v_lengths : Value) (v_authors : Value) (v_sums : Value) (v_row : Value) (v_made : Value) (i_madeSize : Int32) (v_base : Value) (i_baseSize : Int32) (v_text : Value) (i_textSize : Int32) (i_textSteps : Int32) (v_other : Value) (i_otherSize : Int32) (v_piece : Value) (i_pieceSize : Int32) (i_at : Int32) (i_end : Int32) (i_value : Int32) (go : Option Nat) (n : Nat) (hg : ∀ w, go = some w → w < 2 ^ 31) (hn : n < 2 ^ 30) (hle : ∀ w, go = some w → n ≤ w) : Met l y_O_writes k_O_writes ({ frames := 0, cells := 0, slots := 0, locals := 0 } : Room) (va_Pc [.ref h0, .int (nI n)] (pc_E (dC, dI) [(h0, .inr (7, [.int i_thrown, .int i_down, .int (vI go), v_buffer, .int i_size, .int i_documents, v_gone, v_first, v_many, v_lengths, v_authors, v_sums, v_row, v_made, .int i_madeSize, v_base, .int i_baseSize, v_text, .int i_textSize, .int i_textSteps, v_other, .int i_otherSize, v_piece, .int i_pieceSize, .int i_at, .int i_end, .int i_value]))] [] sz)) (va_Qi (fun (r : Int32) (_ : Unit) => r = 1) (fun (_ : Unit) t => ∃ (la : Int32), (la = vI (go.map (· - n))) ∧ at_E (dC, dI) (va_A [(h0, .inr (7, [.int i_thrown, .int i_down, .int (vI go), v_buffer, .int i_size, .int i_documents, v_gone, v_first, v_many, v_lengths, v_authors, v_sums, v_row, v_made, .int i_madeSize, v_base, .int i_baseSize, v_text, .int i_textSize, .int i_textSteps, v_other, .int i_otherSize, v_piece, .int i_pieceSize, .int i_at, .int i_end, .int i_value]))] sz) [(h0, .inr (7, [.int i_thrown, .int i_down, .int la, v_buffer, .int i_size, .int i_documents, v_gone, v_first, v_many, v_lengths, v_authors, v_sums, v_row, v_made, .int i_madeSize, v_base, .int i_baseSize, v_text, .int i_textSize, .int i_textSteps, v_other, .int i_otherSize, v_piece, .int i_pieceSize, .int i_at, .int i_end, .int i_value]))] [] t) (va_A [(h0, .inr (7, [.int i_thrown, .int i_down, .int (vI go), v_buffer, .int i_size, .int i_documents, v_gone, v_first, v_many, v_lengths, v_authors, v_sums, v_row, v_made, .int i_madeSize, v_base, .int i_baseSize, v_text, .int i_textSize, .int i_textSteps, v_other, .int i_otherSize, v_piece, .int i_pieceSize, .int i_at, .int i_end, .int i_value]))] sz)) 0 0 (va_A [(h0, .inr (7, [.int i_thrown, .int i_down, .int (vI go), v_buffer, .int i_size, .int i_documents, v_gone, v_first, v_many, v_lengths, v_authors, v_sums, v_row, v_made, .int i_madeSize, v_base, .int i_baseSize, v_text, .int i_textSize, .int i_textSteps, v_other, .int i_otherSize, v_piece, .int i_pieceSize, .int i_at, .int i_end, .int i_value]))] sz) := by
  refine Met.ofW (cc := prog_9_method_4_code) (maxL := 2) (ret := (some .boolean)) (by decide) rfl ?_
  intro p e s m args below meth c s₁ B hml hv
  obtain ⟨rfl, hsz, hP, hK, hD0, hN⟩ := hv
  have hx := B.exec
  have hb := B.bytes
  have hr := B.returns
  have hts := atoms_spec (ws := k_O_writes) B.pre
  have hw0 : ∀ w ∈ w0, w.before _ s = true := fun w h => hts w (List.mem_cons_of_mem _ h)
  have hown : s.vm.findClass R_O = some m.cls := findClass_of_methodNamed B.named
  have hlocks := B.notSynchronized
  subst hsz
  have hD := hD0.self (sz := s.heap.size)
  generalize hAe : va_A [(h0, .inr (7, [.int i_thrown, .int i_down, .int (vI go), v_buffer, .int i_size, .int i_documents, v_gone, v_first, v_many, v_lengths, v_authors, v_sums, v_row, v_made, .int i_madeSize, v_base, .int i_baseSize, v_text, .int i_textSize, .int i_textSteps, v_other, .int i_otherSize, v_piece, .int i_pieceSize, .int i_at, .int i_end, .int i_value]))] s.heap.size = A at hD ⊢
  have hA : ∀ q : Nat, s.heap.size ≤ q → A q := fun q h => by rw [← hAe]; exact Or.inr h
  have hS : va_S A s.heap s.heap [] := va_S.rf
  have hP : va_P (dC, dI) vwCl [(h0, .inr (7, [.int i_thrown, .int i_down, .int (vI go), v_buffer, .int i_size, .int i_documents, v_gone, v_first, v_many, v_lengths, v_authors, v_sums, v_row, v_made, .int i_madeSize, v_base, .int i_baseSize, v_text, .int i_textSize, .int i_textSteps, v_other, .int i_otherSize, v_piece, .int i_pieceSize, .int i_at, .int i_end, .int i_value]))] s.heap := hP
  have hl := lv_entry ([.ref h0, .int (nI n)]) (n := 2) (Nat.le_of_ble_eq_true rfl)
  rw [lg_entry_eq]
  generalize (lg_sl ([.ref h0, .int (nI n)]) ++ List.replicate (2 - (lg_sl ([.ref h0, .int (nI n)])).length) Slot.unset).toArray = ls at hl ⊢
  have hl : lv_has ls 2 [(0, .ref h0), (1, .int (nI n))] := hl
  refine lv_aload_n hx hb d_O_writes_0 rfl (lv_at hl 0 rfl) ?_
  refine va_get (D := (dC, dI)) (ci := 7) (v := .int (vI go)) (C := R_O) (T := F_O) (N := 27) hx hb hw0 in_O hown hK hP 0 rfl rfl 2 (by decide) (hw0 (.fieldLink R_O 9 "TextKeeperModel" "lasts" "I") (List.mem_of_getElem? (i := 249) rfl)) (fun _ h9 => h9) rfl d_O_writes_1 ?_
  refine lv_iconst (v := (-1)) hx hb d_O_writes_4 (by decide) ?_
  refine lv_icmp_eq (tgt := 16) hx hb d_O_writes_5 (by decide) (fun c_1 => ?_) (fun c_1 => ?_)
  · refine lv_aload_n hx hb d_O_writes_16 rfl (lv_at hl 0 rfl) ?_
    refine lv_aload_n hx hb d_O_writes_17 rfl (lv_at hl 0 rfl) ?_
    refine va_get (D := (dC, dI)) (ci := 7) (v := .int (vI go)) (C := R_O) (T := F_O) (N := 27) hx hb hw0 in_O hown hK hP 0 rfl rfl 2 (by decide) (hw0 (.fieldLink R_O 9 "TextKeeperModel" "lasts" "I") (List.mem_of_getElem? (i := 249) rfl)) (fun _ h9 => h9) rfl d_O_writes_18 ?_
    refine lv_iconst (v := (-1)) hx hb d_O_writes_21 (by decide) ?_
    refine lv_icmp_ne (tgt := 29) hx hb d_O_writes_22 (by decide) (fun c_2 => ?_) (fun c_2 => ?_)
    · refine lv_aload_n hx hb d_O_writes_29 rfl (lv_at hl 0 rfl) ?_
      refine va_get (D := (dC, dI)) (ci := 7) (v := .int (vI go)) (C := R_O) (T := F_O) (N := 27) hx hb hw0 in_O hown hK hP 0 rfl rfl 2 (by decide) (hw0 (.fieldLink R_O 9 "TextKeeperModel" "lasts" "I") (List.mem_of_getElem? (i := 249) rfl)) (fun _ h9 => h9) rfl d_O_writes_30 ?_
      refine lv_iload_n hx hb d_O_writes_33 rfl (lv_at hl 1 rfl) ?_
      refine lv_isub hx hb d_O_writes_34 ?_
      refine lv_topi (fun x_3 ex_3 => ?_)
      refine va_put (D := (dC, dI)) (ci := 7) (v := .int x_3) (ty := .int) (C := R_O) (T := F_O) (N := 27) hx hb hw0 in_O ft_O tk_O nk_O hown hK hP hD hS 0 rfl rfl 2 (by decide) (hw0 (.fieldLink R_O 9 "TextKeeperModel" "lasts" "I") (List.mem_of_getElem? (i := 249) rfl)) (fun _ h9 => h9) rfl (by decide +kernel) rfl rfl (Nat.le_of_ble_eq_true rfl) d_O_writes_35 (fun H locs hP hD hS => ?_)
      replace hP : va_P (dC, dI) vwCl [(h0, .inr (7, [.int i_thrown, .int i_down, .int x_3, v_buffer, .int i_size, .int i_documents, v_gone, v_first, v_many, v_lengths, v_authors, v_sums, v_row, v_made, .int i_madeSize, v_base, .int i_baseSize, v_text, .int i_textSize, .int i_textSteps, v_other, .int i_otherSize, v_piece, .int i_pieceSize, .int i_at, .int i_end, .int i_value]))] H := hP
      replace hD : va_D A [(h0, .inr (7, [.int i_thrown, .int i_down, .int x_3, v_buffer, .int i_size, .int i_documents, v_gone, v_first, v_many, v_lengths, v_authors, v_sums, v_row, v_made, .int i_madeSize, v_base, .int i_baseSize, v_text, .int i_textSize, .int i_textSteps, v_other, .int i_otherSize, v_piece, .int i_pieceSize, .int i_at, .int i_end, .int i_value]))] := hD
      refine lv_iconst (v := 1) hx hb d_O_writes_38 (by decide) ?_
      have hP9 := hP.sub (ws' := [(h0, .inr (7, [.int i_thrown, .int i_down, .int x_3, v_buffer, .int i_size, .int i_documents, v_gone, v_first, v_many, v_lengths, v_authors, v_sums, v_row, v_made, .int i_madeSize, v_base, .int i_baseSize, v_text, .int i_textSize, .int i_textSteps, v_other, .int i_otherSize, v_piece, .int i_pieceSize, .int i_at, .int i_end, .int i_value]))]) [0] rfl
      have hD9 := hD.sub (ws' := [(h0, .inr (7, [.int i_thrown, .int i_down, .int x_3, v_buffer, .int i_size, .int i_documents, v_gone, v_first, v_many, v_lengths, v_authors, v_sums, v_row, v_made, .int i_madeSize, v_base, .int i_baseSize, v_text, .int i_textSize, .int i_textSteps, v_other, .int i_otherSize, v_piece, .int i_pieceSize, .int i_at, .int i_end, .int i_value]))]) [0] (by decide) rfl
      have hK9 := hK.sub (tys' := []) [] rfl
      exact W.zret (v := 1) (ty := .boolean) hx hb hr rfl (fun t ht hW => ⟨⟨1, (), rfl, rfl, x_3, (by obtain ⟨w9, hw9⟩ := vI_some c_2; rw [ex_3, hw9]; exact pk_sub (hle w9 hw9)), by rw [ht]; exact hP9, va_K.moved hW.alike hK9, hD9⟩, hS.F ht⟩) hS.2.2 d_O_writes_39
    · refine lv_iconst (v := (-1)) hx hb d_O_writes_25 (by decide) ?_
      refine lv_goto (tgt := 35) hx hb d_O_writes_26 (by decide) ?_
      refine va_put (D := (dC, dI)) (ci := 7) (v := .int (-1)) (ty := .int) (C := R_O) (T := F_O) (N := 27) hx hb hw0 in_O ft_O tk_O nk_O hown hK hP hD hS 0 rfl rfl 2 (by decide) (hw0 (.fieldLink R_O 9 "TextKeeperModel" "lasts" "I") (List.mem_of_getElem? (i := 249) rfl)) (fun _ h9 => h9) rfl (by decide +kernel) rfl rfl (Nat.le_of_ble_eq_true rfl) d_O_writes_35 (fun H locs hP hD hS => ?_)
      replace hP : va_P (dC, dI) vwCl [(h0, .inr (7, [.int i_thrown, .int i_down, .int (-1), v_buffer, .int i_size, .int i_documents, v_gone, v_first, v_many, v_lengths, v_authors, v_sums, v_row, v_made, .int i_madeSize, v_base, .int i_baseSize, v_text, .int i_textSize, .int i_textSteps, v_other, .int i_otherSize, v_piece, .int i_pieceSize, .int i_at, .int i_end, .int i_value]))] H := hP
      replace hD : va_D A [(h0, .inr (7, [.int i_thrown, .int i_down, .int (-1), v_buffer, .int i_size, .int i_documents, v_gone, v_first, v_many, v_lengths, v_authors, v_sums, v_row, v_made, .int i_madeSize, v_base, .int i_baseSize, v_text, .int i_textSize, .int i_textSteps, v_other, .int i_otherSize, v_piece, .int i_pieceSize, .int i_at, .int i_end, .int i_value]))] := hD
      refine lv_iconst (v := 1) hx hb d_O_writes_38 (by decide) ?_
      have hP9 := hP.sub (ws' := [(h0, .inr (7, [.int i_thrown, .int i_down, .int (-1), v_buffer, .int i_size, .int i_documents, v_gone, v_first, v_many, v_lengths, v_authors, v_sums, v_row, v_made, .int i_madeSize, v_base, .int i_baseSize, v_text, .int i_textSize, .int i_textSteps, v_other, .int i_otherSize, v_piece, .int i_pieceSize, .int i_at, .int i_end, .int i_value]))]) [0] rfl
      have hD9 := hD.sub (ws' := [(h0, .inr (7, [.int i_thrown, .int i_down, .int (-1), v_buffer, .int i_size, .int i_documents, v_gone, v_first, v_many, v_lengths, v_authors, v_sums, v_row, v_made, .int i_madeSize, v_base, .int i_baseSize, v_text, .int i_textSize, .int i_textSteps, v_other, .int i_otherSize, v_piece, .int i_pieceSize, .int i_at, .int i_end, .int i_value]))]) [0] (by decide) rfl
      have hK9 := hK.sub (tys' := []) [] rfl
      exact W.zret (v := 1) (ty := .boolean) hx hb hr rfl (fun t ht hW => ⟨⟨1, (), rfl, rfl, (-1), (by rw [vI_none hg c_2]; rfl), by rw [ht]; exact hP9, va_K.moved hW.alike hK9, hD9⟩, hS.F ht⟩) hS.2.2 d_O_writes_39
  · refine lv_aload_n hx hb d_O_writes_8 rfl (lv_at hl 0 rfl) ?_
    refine va_get (D := (dC, dI)) (ci := 7) (v := .int (vI go)) (C := R_O) (T := F_O) (N := 27) hx hb hw0 in_O hown hK hP 0 rfl rfl 2 (by decide) (hw0 (.fieldLink R_O 9 "TextKeeperModel" "lasts" "I") (List.mem_of_getElem? (i := 249) rfl)) (fun _ h9 => h9) rfl d_O_writes_9 ?_
    refine lv_iload_n hx hb d_O_writes_12 rfl (lv_at hl 1 rfl) ?_
    refine lv_icmp_lt (tgt := 40) hx hb d_O_writes_13 (by decide) (fun c_4 => absurd c_4 (vI_nlt hg hle c_1)) (fun c_4 => ?_)
    refine lv_aload_n hx hb d_O_writes_16 rfl (lv_at hl 0 rfl) ?_
    refine lv_aload_n hx hb d_O_writes_17 rfl (lv_at hl 0 rfl) ?_
    refine va_get (D := (dC, dI)) (ci := 7) (v := .int (vI go)) (C := R_O) (T := F_O) (N := 27) hx hb hw0 in_O hown hK hP 0 rfl rfl 2 (by decide) (hw0 (.fieldLink R_O 9 "TextKeeperModel" "lasts" "I") (List.mem_of_getElem? (i := 249) rfl)) (fun _ h9 => h9) rfl d_O_writes_18 ?_
    refine lv_iconst (v := (-1)) hx hb d_O_writes_21 (by decide) ?_
    refine lv_icmp_ne (tgt := 29) hx hb d_O_writes_22 (by decide) (fun c_5 => ?_) (fun c_5 => ?_)
    · refine lv_aload_n hx hb d_O_writes_29 rfl (lv_at hl 0 rfl) ?_
      refine va_get (D := (dC, dI)) (ci := 7) (v := .int (vI go)) (C := R_O) (T := F_O) (N := 27) hx hb hw0 in_O hown hK hP 0 rfl rfl 2 (by decide) (hw0 (.fieldLink R_O 9 "TextKeeperModel" "lasts" "I") (List.mem_of_getElem? (i := 249) rfl)) (fun _ h9 => h9) rfl d_O_writes_30 ?_
      refine lv_iload_n hx hb d_O_writes_33 rfl (lv_at hl 1 rfl) ?_
      refine lv_isub hx hb d_O_writes_34 ?_
      refine lv_topi (fun x_6 ex_6 => ?_)
      refine va_put (D := (dC, dI)) (ci := 7) (v := .int x_6) (ty := .int) (C := R_O) (T := F_O) (N := 27) hx hb hw0 in_O ft_O tk_O nk_O hown hK hP hD hS 0 rfl rfl 2 (by decide) (hw0 (.fieldLink R_O 9 "TextKeeperModel" "lasts" "I") (List.mem_of_getElem? (i := 249) rfl)) (fun _ h9 => h9) rfl (by decide +kernel) rfl rfl (Nat.le_of_ble_eq_true rfl) d_O_writes_35 (fun H locs hP hD hS => ?_)
      replace hP : va_P (dC, dI) vwCl [(h0, .inr (7, [.int i_thrown, .int i_down, .int x_6, v_buffer, .int i_size, .int i_documents, v_gone, v_first, v_many, v_lengths, v_authors, v_sums, v_row, v_made, .int i_madeSize, v_base, .int i_baseSize, v_text, .int i_textSize, .int i_textSteps, v_other, .int i_otherSize, v_piece, .int i_pieceSize, .int i_at, .int i_end, .int i_value]))] H := hP
      replace hD : va_D A [(h0, .inr (7, [.int i_thrown, .int i_down, .int x_6, v_buffer, .int i_size, .int i_documents, v_gone, v_first, v_many, v_lengths, v_authors, v_sums, v_row, v_made, .int i_madeSize, v_base, .int i_baseSize, v_text, .int i_textSize, .int i_textSteps, v_other, .int i_otherSize, v_piece, .int i_pieceSize, .int i_at, .int i_end, .int i_value]))] := hD
      refine lv_iconst (v := 1) hx hb d_O_writes_38 (by decide) ?_
      have hP9 := hP.sub (ws' := [(h0, .inr (7, [.int i_thrown, .int i_down, .int x_6, v_buffer, .int i_size, .int i_documents, v_gone, v_first, v_many, v_lengths, v_authors, v_sums, v_row, v_made, .int i_madeSize, v_base, .int i_baseSize, v_text, .int i_textSize, .int i_textSteps, v_other, .int i_otherSize, v_piece, .int i_pieceSize, .int i_at, .int i_end, .int i_value]))]) [0] rfl
      have hD9 := hD.sub (ws' := [(h0, .inr (7, [.int i_thrown, .int i_down, .int x_6, v_buffer, .int i_size, .int i_documents, v_gone, v_first, v_many, v_lengths, v_authors, v_sums, v_row, v_made, .int i_madeSize, v_base, .int i_baseSize, v_text, .int i_textSize, .int i_textSteps, v_other, .int i_otherSize, v_piece, .int i_pieceSize, .int i_at, .int i_end, .int i_value]))]) [0] (by decide) rfl
      have hK9 := hK.sub (tys' := []) [] rfl
      exact W.zret (v := 1) (ty := .boolean) hx hb hr rfl (fun t ht hW => ⟨⟨1, (), rfl, rfl, x_6, (by obtain ⟨w9, hw9⟩ := vI_some c_5; rw [ex_6, hw9]; exact pk_sub (hle w9 hw9)), by rw [ht]; exact hP9, va_K.moved hW.alike hK9, hD9⟩, hS.F ht⟩) hS.2.2 d_O_writes_39
    · refine lv_iconst (v := (-1)) hx hb d_O_writes_25 (by decide) ?_
      refine lv_goto (tgt := 35) hx hb d_O_writes_26 (by decide) ?_
      refine va_put (D := (dC, dI)) (ci := 7) (v := .int (-1)) (ty := .int) (C := R_O) (T := F_O) (N := 27) hx hb hw0 in_O ft_O tk_O nk_O hown hK hP hD hS 0 rfl rfl 2 (by decide) (hw0 (.fieldLink R_O 9 "TextKeeperModel" "lasts" "I") (List.mem_of_getElem? (i := 249) rfl)) (fun _ h9 => h9) rfl (by decide +kernel) rfl rfl (Nat.le_of_ble_eq_true rfl) d_O_writes_35 (fun H locs hP hD hS => ?_)
      replace hP : va_P (dC, dI) vwCl [(h0, .inr (7, [.int i_thrown, .int i_down, .int (-1), v_buffer, .int i_size, .int i_documents, v_gone, v_first, v_many, v_lengths, v_authors, v_sums, v_row, v_made, .int i_madeSize, v_base, .int i_baseSize, v_text, .int i_textSize, .int i_textSteps, v_other, .int i_otherSize, v_piece, .int i_pieceSize, .int i_at, .int i_end, .int i_value]))] H := hP
      replace hD : va_D A [(h0, .inr (7, [.int i_thrown, .int i_down, .int (-1), v_buffer, .int i_size, .int i_documents, v_gone, v_first, v_many, v_lengths, v_authors, v_sums, v_row, v_made, .int i_madeSize, v_base, .int i_baseSize, v_text, .int i_textSize, .int i_textSteps, v_other, .int i_otherSize, v_piece, .int i_pieceSize, .int i_at, .int i_end, .int i_value]))] := hD
      refine lv_iconst (v := 1) hx hb d_O_writes_38 (by decide) ?_
      have hP9 := hP.sub (ws' := [(h0, .inr (7, [.int i_thrown, .int i_down, .int (-1), v_buffer, .int i_size, .int i_documents, v_gone, v_first, v_many, v_lengths, v_authors, v_sums, v_row, v_made, .int i_madeSize, v_base, .int i_baseSize, v_text, .int i_textSize, .int i_textSteps, v_other, .int i_otherSize, v_piece, .int i_pieceSize, .int i_at, .int i_end, .int i_value]))]) [0] rfl
      have hD9 := hD.sub (ws' := [(h0, .inr (7, [.int i_thrown, .int i_down, .int (-1), v_buffer, .int i_size, .int i_documents, v_gone, v_first, v_many, v_lengths, v_authors, v_sums, v_row, v_made, .int i_madeSize, v_base, .int i_baseSize, v_text, .int i_textSize, .int i_textSteps, v_other, .int i_otherSize, v_piece, .int i_pieceSize, .int i_at, .int i_end, .int i_value]))]) [0] (by decide) rfl
      have hK9 := hK.sub (tys' := []) [] rfl
      exact W.zret (v := 1) (ty := .boolean) hx hb hr rfl (fun t ht hW => ⟨⟨1, (), rfl, rfl, (-1), (by rw [vI_none hg c_5]; rfl), by rw [ht]; exact hP9, va_K.moved hW.alike hK9, hD9⟩, hS.F ht⟩) hS.2.2 d_O_writes_39
set_option maxHeartbeats 4000000 in
set_option maxRecDepth 100000 in
theorem o_writes_F (l : Launch) (dC : Nat → ClassId) (dI : Nat → Nat → Nat) (sz : Nat) (h0 : Nat) (i_thrown : Int32) (i_down : Int32) (v_buffer : Value) (i_size : Int32) (i_documents : Int32) (v_gone : Value) (v_first : Value) (v_many : Value) (v_lengths : Value) (v_authors : Value) (v_sums : Value) (v_row : Value) (v_made : Value) (i_madeSize : Int32) (v_base : Value) (i_baseSize : Int32) (v_text : Value) (i_textSize : Int32) (i_textSteps : Int32) (v_other : Value) (i_otherSize : Int32) (v_piece : Value) (i_pieceSize : Int32) (i_at : Int32) (i_end : Int32) (i_value : Int32) (go : Option Nat) (w9 : Nat) (n : Nat) (hw8 : go = some w9) (hw9 : w9 < n) (hn : n < 2 ^ 30) : Met l y_O_writes k_O_writes ({ frames := 0, cells := 0, slots := 0, locals := 0 } : Room) (va_Pc [.ref h0, .int (nI n)] (pc_E (dC, dI) [(h0, .inr (7, [.int i_thrown, .int i_down, .int (vI go), v_buffer, .int i_size, .int i_documents, v_gone, v_first, v_many, v_lengths, v_authors, v_sums, v_row, v_made, .int i_madeSize, v_base, .int i_baseSize, v_text, .int i_textSize, .int i_textSteps, v_other, .int i_otherSize, v_piece, .int i_pieceSize, .int i_at, .int i_end, .int i_value]))] [] sz)) (va_Qi (fun (r : Int32) (_ : Unit) => r = 0) (fun (_ : Unit) t => at_E (dC, dI) (va_A [(h0, .inr (7, [.int i_thrown, .int i_down, .int (vI go), v_buffer, .int i_size, .int i_documents, v_gone, v_first, v_many, v_lengths, v_authors, v_sums, v_row, v_made, .int i_madeSize, v_base, .int i_baseSize, v_text, .int i_textSize, .int i_textSteps, v_other, .int i_otherSize, v_piece, .int i_pieceSize, .int i_at, .int i_end, .int i_value]))] sz) [(h0, .inr (7, [.int 1, .int 1, .int (-1), v_buffer, .int 0, .int i_documents, v_gone, v_first, v_many, v_lengths, v_authors, v_sums, v_row, v_made, .int i_madeSize, v_base, .int i_baseSize, v_text, .int i_textSize, .int i_textSteps, v_other, .int i_otherSize, v_piece, .int i_pieceSize, .int i_at, .int i_end, .int i_value]))] [] t) (va_A [(h0, .inr (7, [.int i_thrown, .int i_down, .int (vI go), v_buffer, .int i_size, .int i_documents, v_gone, v_first, v_many, v_lengths, v_authors, v_sums, v_row, v_made, .int i_madeSize, v_base, .int i_baseSize, v_text, .int i_textSize, .int i_textSteps, v_other, .int i_otherSize, v_piece, .int i_pieceSize, .int i_at, .int i_end, .int i_value]))] sz)) 0 0 (va_A [(h0, .inr (7, [.int i_thrown, .int i_down, .int (vI go), v_buffer, .int i_size, .int i_documents, v_gone, v_first, v_many, v_lengths, v_authors, v_sums, v_row, v_made, .int i_madeSize, v_base, .int i_baseSize, v_text, .int i_textSize, .int i_textSteps, v_other, .int i_otherSize, v_piece, .int i_pieceSize, .int i_at, .int i_end, .int i_value]))] sz) := by
  refine Met.ofW (cc := prog_9_method_4_code) (maxL := 2) (ret := (some .boolean)) (by decide) rfl ?_
  intro p e s m args below meth c s₁ B hml hv
  obtain ⟨rfl, hsz, hP, hK, hD0, hN⟩ := hv
  have hx := B.exec
  have hb := B.bytes
  have hr := B.returns
  have hts := atoms_spec (ws := k_O_writes) B.pre
  have hw0 : ∀ w ∈ w0, w.before _ s = true := fun w h => hts w (List.mem_cons_of_mem _ h)
  have hown : s.vm.findClass R_O = some m.cls := findClass_of_methodNamed B.named
  have hlocks := B.notSynchronized
  subst hsz
  have hD := hD0.self (sz := s.heap.size)
  generalize hAe : va_A [(h0, .inr (7, [.int i_thrown, .int i_down, .int (vI go), v_buffer, .int i_size, .int i_documents, v_gone, v_first, v_many, v_lengths, v_authors, v_sums, v_row, v_made, .int i_madeSize, v_base, .int i_baseSize, v_text, .int i_textSize, .int i_textSteps, v_other, .int i_otherSize, v_piece, .int i_pieceSize, .int i_at, .int i_end, .int i_value]))] s.heap.size = A at hD ⊢
  have hA : ∀ q : Nat, s.heap.size ≤ q → A q := fun q h => by rw [← hAe]; exact Or.inr h
  have hS : va_S A s.heap s.heap [] := va_S.rf
  have hP : va_P (dC, dI) vwCl [(h0, .inr (7, [.int i_thrown, .int i_down, .int (vI go), v_buffer, .int i_size, .int i_documents, v_gone, v_first, v_many, v_lengths, v_authors, v_sums, v_row, v_made, .int i_madeSize, v_base, .int i_baseSize, v_text, .int i_textSize, .int i_textSteps, v_other, .int i_otherSize, v_piece, .int i_pieceSize, .int i_at, .int i_end, .int i_value]))] s.heap := hP
  have hl := lv_entry ([.ref h0, .int (nI n)]) (n := 2) (Nat.le_of_ble_eq_true rfl)
  rw [lg_entry_eq]
  generalize (lg_sl ([.ref h0, .int (nI n)]) ++ List.replicate (2 - (lg_sl ([.ref h0, .int (nI n)])).length) Slot.unset).toArray = ls at hl ⊢
  have hl : lv_has ls 2 [(0, .ref h0), (1, .int (nI n))] := hl
  refine lv_aload_n hx hb d_O_writes_0 rfl (lv_at hl 0 rfl) ?_
  refine va_get (D := (dC, dI)) (ci := 7) (v := .int (vI go)) (C := R_O) (T := F_O) (N := 27) hx hb hw0 in_O hown hK hP 0 rfl rfl 2 (by decide) (hw0 (.fieldLink R_O 9 "TextKeeperModel" "lasts" "I") (List.mem_of_getElem? (i := 249) rfl)) (fun _ h9 => h9) rfl d_O_writes_1 ?_
  refine lv_iconst (v := (-1)) hx hb d_O_writes_4 (by decide) ?_
  refine lv_icmp_eq (tgt := 16) hx hb d_O_writes_5 (by decide) (fun c_1 => absurd c_1 (by rw [hw8]; exact nI_m1 (by omega))) (fun c_1 => ?_)
  refine lv_aload_n hx hb d_O_writes_8 rfl (lv_at hl 0 rfl) ?_
  refine va_get (D := (dC, dI)) (ci := 7) (v := .int (vI go)) (C := R_O) (T := F_O) (N := 27) hx hb hw0 in_O hown hK hP 0 rfl rfl 2 (by decide) (hw0 (.fieldLink R_O 9 "TextKeeperModel" "lasts" "I") (List.mem_of_getElem? (i := 249) rfl)) (fun _ h9 => h9) rfl d_O_writes_9 ?_
  refine lv_iload_n hx hb d_O_writes_12 rfl (lv_at hl 1 rfl) ?_
  refine lv_icmp_lt (tgt := 40) hx hb d_O_writes_13 (by decide) (fun c_2 => ?_) (fun c_2 => absurd (by rw [hw8]; exact nI_lt hw9 (by omega)) c_2)
  refine lv_aload_n hx hb d_O_writes_40 rfl (lv_at hl 0 rfl) ?_
  refine lv_iconst (v := 1) hx hb d_O_writes_41 (by decide) ?_
  refine va_put (D := (dC, dI)) (ci := 7) (v := .int 1) (ty := .boolean) (C := R_O) (T := F_O) (N := 27) hx hb hw0 in_O ft_O tk_O nk_O hown hK hP hD hS 0 rfl rfl 1 (by decide) (hw0 (.fieldLink R_O 65 "TextKeeperModel" "down" "Z") (List.mem_of_getElem? (i := 247) rfl)) (fun _ h9 => h9) rfl (by decide +kernel) rfl rfl (Nat.le_of_ble_eq_true rfl) d_O_writes_42 (fun H locs hP hD hS => ?_)
  replace hP : va_P (dC, dI) vwCl [(h0, .inr (7, [.int i_thrown, .int 1, .int (vI go), v_buffer, .int i_size, .int i_documents, v_gone, v_first, v_many, v_lengths, v_authors, v_sums, v_row, v_made, .int i_madeSize, v_base, .int i_baseSize, v_text, .int i_textSize, .int i_textSteps, v_other, .int i_otherSize, v_piece, .int i_pieceSize, .int i_at, .int i_end, .int i_value]))] H := hP
  replace hD : va_D A [(h0, .inr (7, [.int i_thrown, .int 1, .int (vI go), v_buffer, .int i_size, .int i_documents, v_gone, v_first, v_many, v_lengths, v_authors, v_sums, v_row, v_made, .int i_madeSize, v_base, .int i_baseSize, v_text, .int i_textSize, .int i_textSteps, v_other, .int i_otherSize, v_piece, .int i_pieceSize, .int i_at, .int i_end, .int i_value]))] := hD
  refine lv_aload_n hx hb d_O_writes_45 rfl (lv_at hl 0 rfl) ?_
  refine lv_iconst (v := (-1)) hx hb d_O_writes_46 (by decide) ?_
  refine va_put (D := (dC, dI)) (ci := 7) (v := .int (-1)) (ty := .int) (C := R_O) (T := F_O) (N := 27) hx hb hw0 in_O ft_O tk_O nk_O hown hK hP hD hS 0 rfl rfl 2 (by decide) (hw0 (.fieldLink R_O 9 "TextKeeperModel" "lasts" "I") (List.mem_of_getElem? (i := 249) rfl)) (fun _ h9 => h9) rfl (by decide +kernel) rfl rfl (Nat.le_of_ble_eq_true rfl) d_O_writes_47 (fun H locs hP hD hS => ?_)
  replace hP : va_P (dC, dI) vwCl [(h0, .inr (7, [.int i_thrown, .int 1, .int (-1), v_buffer, .int i_size, .int i_documents, v_gone, v_first, v_many, v_lengths, v_authors, v_sums, v_row, v_made, .int i_madeSize, v_base, .int i_baseSize, v_text, .int i_textSize, .int i_textSteps, v_other, .int i_otherSize, v_piece, .int i_pieceSize, .int i_at, .int i_end, .int i_value]))] H := hP
  replace hD : va_D A [(h0, .inr (7, [.int i_thrown, .int 1, .int (-1), v_buffer, .int i_size, .int i_documents, v_gone, v_first, v_many, v_lengths, v_authors, v_sums, v_row, v_made, .int i_madeSize, v_base, .int i_baseSize, v_text, .int i_textSize, .int i_textSteps, v_other, .int i_otherSize, v_piece, .int i_pieceSize, .int i_at, .int i_end, .int i_value]))] := hD
  refine lv_aload_n hx hb d_O_writes_50 rfl (lv_at hl 0 rfl) ?_
  refine lv_iconst (v := 0) hx hb d_O_writes_51 (by decide) ?_
  refine va_put (D := (dC, dI)) (ci := 7) (v := .int 0) (ty := .int) (C := R_O) (T := F_O) (N := 27) hx hb hw0 in_O ft_O tk_O nk_O hown hK hP hD hS 0 rfl rfl 4 (by decide) (hw0 (.fieldLink R_O 69 "TextKeeperModel" "size" "I") (List.mem_of_getElem? (i := 163) rfl)) (fun _ h9 => h9) rfl (by decide +kernel) rfl rfl (Nat.le_of_ble_eq_true rfl) d_O_writes_52 (fun H locs hP hD hS => ?_)
  replace hP : va_P (dC, dI) vwCl [(h0, .inr (7, [.int i_thrown, .int 1, .int (-1), v_buffer, .int 0, .int i_documents, v_gone, v_first, v_many, v_lengths, v_authors, v_sums, v_row, v_made, .int i_madeSize, v_base, .int i_baseSize, v_text, .int i_textSize, .int i_textSteps, v_other, .int i_otherSize, v_piece, .int i_pieceSize, .int i_at, .int i_end, .int i_value]))] H := hP
  replace hD : va_D A [(h0, .inr (7, [.int i_thrown, .int 1, .int (-1), v_buffer, .int 0, .int i_documents, v_gone, v_first, v_many, v_lengths, v_authors, v_sums, v_row, v_made, .int i_madeSize, v_base, .int i_baseSize, v_text, .int i_textSize, .int i_textSteps, v_other, .int i_otherSize, v_piece, .int i_pieceSize, .int i_at, .int i_end, .int i_value]))] := hD
  refine lv_aload_n hx hb d_O_writes_55 rfl (lv_at hl 0 rfl) ?_
  refine lv_iconst (v := 1) hx hb d_O_writes_56 (by decide) ?_
  refine va_put (D := (dC, dI)) (ci := 7) (v := .int 1) (ty := .int) (C := R_O) (T := F_O) (N := 27) hx hb hw0 in_O ft_O tk_O nk_O hown hK hP hD hS 0 rfl rfl 0 (by decide) (hw0 (.fieldLink R_O 62 "TextKeeperModel" "thrown" "I") (List.mem_of_getElem? (i := 248) rfl)) (fun _ h9 => h9) rfl (by decide +kernel) rfl rfl (Nat.le_of_ble_eq_true rfl) d_O_writes_57 (fun H locs hP hD hS => ?_)
  replace hP : va_P (dC, dI) vwCl [(h0, .inr (7, [.int 1, .int 1, .int (-1), v_buffer, .int 0, .int i_documents, v_gone, v_first, v_many, v_lengths, v_authors, v_sums, v_row, v_made, .int i_madeSize, v_base, .int i_baseSize, v_text, .int i_textSize, .int i_textSteps, v_other, .int i_otherSize, v_piece, .int i_pieceSize, .int i_at, .int i_end, .int i_value]))] H := hP
  replace hD : va_D A [(h0, .inr (7, [.int 1, .int 1, .int (-1), v_buffer, .int 0, .int i_documents, v_gone, v_first, v_many, v_lengths, v_authors, v_sums, v_row, v_made, .int i_madeSize, v_base, .int i_baseSize, v_text, .int i_textSize, .int i_textSteps, v_other, .int i_otherSize, v_piece, .int i_pieceSize, .int i_at, .int i_end, .int i_value]))] := hD
  refine lv_iconst (v := 0) hx hb d_O_writes_60 (by decide) ?_
  have hP9 := hP.sub (ws' := [(h0, .inr (7, [.int 1, .int 1, .int (-1), v_buffer, .int 0, .int i_documents, v_gone, v_first, v_many, v_lengths, v_authors, v_sums, v_row, v_made, .int i_madeSize, v_base, .int i_baseSize, v_text, .int i_textSize, .int i_textSteps, v_other, .int i_otherSize, v_piece, .int i_pieceSize, .int i_at, .int i_end, .int i_value]))]) [0] rfl
  have hD9 := hD.sub (ws' := [(h0, .inr (7, [.int 1, .int 1, .int (-1), v_buffer, .int 0, .int i_documents, v_gone, v_first, v_many, v_lengths, v_authors, v_sums, v_row, v_made, .int i_madeSize, v_base, .int i_baseSize, v_text, .int i_textSize, .int i_textSteps, v_other, .int i_otherSize, v_piece, .int i_pieceSize, .int i_at, .int i_end, .int i_value]))]) [0] (by decide) rfl
  have hK9 := hK.sub (tys' := []) [] rfl
  exact W.zret (v := 0) (ty := .boolean) hx hb hr rfl (fun t ht hW => ⟨⟨0, (), rfl, rfl, by rw [ht]; exact hP9, va_K.moved hW.alike hK9, hD9⟩, hS.F ht⟩) hS.2.2 d_O_writes_61
set_option maxHeartbeats 4000000 in
set_option maxRecDepth 100000 in
theorem o_isDoc_T (l : Launch) (dC : Nat → ClassId) (dI : Nat → Nat → Nat) (h0 : Nat) (i_thrown : Int32) (i_down : Int32) (i_lasts : Int32) (v_buffer : Value) (i_size : Int32) (v_first : Value) (v_many : Value) (v_lengths : Value) (v_authors : Value) (v_sums : Value) (v_row : Value) (v_made : Value) (i_madeSize : Int32) (v_base : Value) (i_baseSize : Int32) (v_text : Value) (i_textSize : Int32) (i_textSteps : Int32) (v_other : Value) (i_otherSize : Int32) (v_piece : Value) (i_pieceSize : Int32) (i_at : Int32) (i_end : Int32) (i_value : Int32) (nd : Nat) (hgo : Nat) (cZ : ClassId) (fg : Nat → Int32) (d9 : Nat) (hnd : nd ≤ 8) (hd9 : d9 < nd) (hgn : fg d9 = 0) : Met l y_O_isDocument k_O_isDocument ({ frames := 0, cells := 0, slots := 0, locals := 0 } : Room) (va_Pc [.ref h0, .int (nI d9)] (pc_R (dC, dI) [(h0, .inr (7, [.int i_thrown, .int i_down, .int i_lasts, v_buffer, .int i_size, .int (nI nd), .ref hgo, v_first, v_many, v_lengths, v_authors, v_sums, v_row, v_made, .int i_madeSize, v_base, .int i_baseSize, v_text, .int i_textSize, .int i_textSteps, v_other, .int i_otherSize, v_piece, .int i_pieceSize, .int i_at, .int i_end, .int i_value])), (hgo, .inl (cZ, 8, .inl (fg)))] [(cZ, .boolean)])) (vp_Si (fun r => r = 1)) 0 0 (fun _ => False) := by
  refine Met.ofW (cc := prog_9_method_7_code) (maxL := 2) (ret := (some .boolean)) (by decide) rfl ?_
  intro p e s m args below meth c s₁ B hml hv
  obtain ⟨rfl, hP, hK, hN⟩ := hv
  have hx := B.exec
  have hb := B.bytes
  have hr := B.returns
  have hts := atoms_spec (ws := k_O_isDocument) B.pre
  have hw0 : ∀ w ∈ w0, w.before _ s = true := fun w h => hts w (List.mem_cons_of_mem _ h)
  have hown : s.vm.findClass R_O = some m.cls := findClass_of_methodNamed B.named
  have hlocks := B.notSynchronized
  have hP : va_P (dC, dI) vwCl [(h0, .inr (7, [.int i_thrown, .int i_down, .int i_lasts, v_buffer, .int i_size, .int (nI nd), .ref hgo, v_first, v_many, v_lengths, v_authors, v_sums, v_row, v_made, .int i_madeSize, v_base, .int i_baseSize, v_text, .int i_textSize, .int i_textSteps, v_other, .int i_otherSize, v_piece, .int i_pieceSize, .int i_at, .int i_end, .int i_value])), (hgo, .inl (cZ, 8, .inl (fg)))] s.heap := hP
  have hl := lv_entry ([.ref h0, .int (nI d9)]) (n := 2) (Nat.le_of_ble_eq_true rfl)
  rw [lg_entry_eq]
  generalize (lg_sl ([.ref h0, .int (nI d9)]) ++ List.replicate (2 - (lg_sl ([.ref h0, .int (nI d9)])).length) Slot.unset).toArray = ls at hl ⊢
  have hl : lv_has ls 2 [(0, .ref h0), (1, .int (nI d9))] := hl
  refine lv_iload_n hx hb d_O_isDocument_0 rfl (lv_at hl 1 rfl) ?_
  refine lv_if_lt (tgt := 25) hx hb d_O_isDocument_1 (by decide) (fun c_1 => absurd c_1 (nI_pos (by omega))) (fun c_1 => ?_)
  refine lv_iload_n hx hb d_O_isDocument_4 rfl (lv_at hl 1 rfl) ?_
  refine lv_aload_n hx hb d_O_isDocument_5 rfl (lv_at hl 0 rfl) ?_
  refine va_get (D := (dC, dI)) (ci := 7) (v := .int (nI nd)) (C := R_O) (T := F_O) (N := 27) hx hb hw0 in_O hown hK hP 0 rfl rfl 5 (by decide) (hw0 (.fieldLink R_O 76 "TextKeeperModel" "documents" "I") (List.mem_of_getElem? (i := 250) rfl)) (fun _ h9 => h9) rfl d_O_isDocument_6 ?_
  refine lv_icmp_ge (tgt := 25) hx hb d_O_isDocument_9 (by decide) (fun c_2 => absurd c_2 (nI_ge hd9 (by omega))) (fun c_2 => ?_)
  refine lv_aload_n hx hb d_O_isDocument_12 rfl (lv_at hl 0 rfl) ?_
  refine va_get (D := (dC, dI)) (ci := 7) (v := .ref hgo) (C := R_O) (T := F_O) (N := 27) hx hb hw0 in_O hown hK hP 0 rfl rfl 6 (by decide) (hw0 (.fieldLink R_O 17 "TextKeeperModel" "gone" "[Z") (List.mem_of_getElem? (i := 251) rfl)) (fun _ h9 => h9) rfl d_O_isDocument_13 ?_
  refine lv_iload_n hx hb d_O_isDocument_16 rfl (lv_at hl 1 rfl) ?_
  refine va_zald hx hb hK hP 1 0 rfl rfl (vp_in_nI (by omega) (by decide)) d_O_isDocument_17 ?_
  refine lv_topi (fun x_3 ex_3 => ?_)
  refine lv_if_ne (tgt := 25) hx hb d_O_isDocument_18 (by decide) (fun c_4 => absurd (by rw [ex_3, nI_clamp (by omega)]; exact hgn) c_4) (fun c_4 => ?_)
  refine lv_iconst (v := 1) hx hb d_O_isDocument_21 (by decide) ?_
  refine lv_goto (tgt := 26) hx hb d_O_isDocument_22 (by decide) ?_
  exact W.zret (v := 1) (ty := .boolean) hx hb hr rfl (fun t ht hW => ⟨1, rfl, rfl, ht⟩) (fun q h => by cases h) d_O_isDocument_26
set_option maxHeartbeats 4000000 in
set_option maxRecDepth 100000 in
theorem o_isDoc_F (l : Launch) (dC : Nat → ClassId) (dI : Nat → Nat → Nat) (h0 : Nat) (i_thrown : Int32) (i_down : Int32) (i_lasts : Int32) (v_buffer : Value) (i_size : Int32) (v_first : Value) (v_many : Value) (v_lengths : Value) (v_authors : Value) (v_sums : Value) (v_row : Value) (v_made : Value) (i_madeSize : Int32) (v_base : Value) (i_baseSize : Int32) (v_text : Value) (i_textSize : Int32) (i_textSteps : Int32) (v_other : Value) (i_otherSize : Int32) (v_piece : Value) (i_pieceSize : Int32) (i_at : Int32) (i_end : Int32) (i_value : Int32) (nd : Nat) (hgo : Nat) (cZ : ClassId) (fg : Nat → Int32) (a1 : Int32) (hnd : nd ≤ 8) (hF : a1 < 0 ∨ nI nd ≤ a1 ∨ ¬ fg a1.toNatClampNeg = 0) : Met l y_O_isDocument k_O_isDocument ({ frames := 0, cells := 0, slots := 0, locals := 0 } : Room) (va_Pc [.ref h0, .int a1] (pc_R (dC, dI) [(h0, .inr (7, [.int i_thrown, .int i_down, .int i_lasts, v_buffer, .int i_size, .int (nI nd), .ref hgo, v_first, v_many, v_lengths, v_authors, v_sums, v_row, v_made, .int i_madeSize, v_base, .int i_baseSize, v_text, .int i_textSize, .int i_textSteps, v_other, .int i_otherSize, v_piece, .int i_pieceSize, .int i_at, .int i_end, .int i_value])), (hgo, .inl (cZ, 8, .inl (fg)))] [(cZ, .boolean)])) (vp_Si (fun r => r = 0)) 0 0 (fun _ => False) := by
  refine Met.ofW (cc := prog_9_method_7_code) (maxL := 2) (ret := (some .boolean)) (by decide) rfl ?_
  intro p e s m args below meth c s₁ B hml hv
  obtain ⟨rfl, hP, hK, hN⟩ := hv
  have hx := B.exec
  have hb := B.bytes
  have hr := B.returns
  have hts := atoms_spec (ws := k_O_isDocument) B.pre
  have hw0 : ∀ w ∈ w0, w.before _ s = true := fun w h => hts w (List.mem_cons_of_mem _ h)
  have hown : s.vm.findClass R_O = some m.cls := findClass_of_methodNamed B.named
  have hlocks := B.notSynchronized
  have hP : va_P (dC, dI) vwCl [(h0, .inr (7, [.int i_thrown, .int i_down, .int i_lasts, v_buffer, .int i_size, .int (nI nd), .ref hgo, v_first, v_many, v_lengths, v_authors, v_sums, v_row, v_made, .int i_madeSize, v_base, .int i_baseSize, v_text, .int i_textSize, .int i_textSteps, v_other, .int i_otherSize, v_piece, .int i_pieceSize, .int i_at, .int i_end, .int i_value])), (hgo, .inl (cZ, 8, .inl (fg)))] s.heap := hP
  have hl := lv_entry ([.ref h0, .int a1]) (n := 2) (Nat.le_of_ble_eq_true rfl)
  rw [lg_entry_eq]
  generalize (lg_sl ([.ref h0, .int a1]) ++ List.replicate (2 - (lg_sl ([.ref h0, .int a1])).length) Slot.unset).toArray = ls at hl ⊢
  have hl : lv_has ls 2 [(0, .ref h0), (1, .int a1)] := hl
  refine lv_iload_n hx hb d_O_isDocument_0 rfl (lv_at hl 1 rfl) ?_
  refine lv_if_lt (tgt := 25) hx hb d_O_isDocument_1 (by decide) (fun c_1 => ?_) (fun c_1 => ?_)
  · refine lv_iconst (v := 0) hx hb d_O_isDocument_25 (by decide) ?_
    exact W.zret (v := 0) (ty := .boolean) hx hb hr rfl (fun t ht hW => ⟨0, rfl, rfl, ht⟩) (fun q h => by cases h) d_O_isDocument_26
  · refine lv_iload_n hx hb d_O_isDocument_4 rfl (lv_at hl 1 rfl) ?_
    refine lv_aload_n hx hb d_O_isDocument_5 rfl (lv_at hl 0 rfl) ?_
    refine va_get (D := (dC, dI)) (ci := 7) (v := .int (nI nd)) (C := R_O) (T := F_O) (N := 27) hx hb hw0 in_O hown hK hP 0 rfl rfl 5 (by decide) (hw0 (.fieldLink R_O 76 "TextKeeperModel" "documents" "I") (List.mem_of_getElem? (i := 250) rfl)) (fun _ h9 => h9) rfl d_O_isDocument_6 ?_
    refine lv_icmp_ge (tgt := 25) hx hb d_O_isDocument_9 (by decide) (fun c_2 => ?_) (fun c_2 => ?_)
    · refine lv_iconst (v := 0) hx hb d_O_isDocument_25 (by decide) ?_
      exact W.zret (v := 0) (ty := .boolean) hx hb hr rfl (fun t ht hW => ⟨0, rfl, rfl, ht⟩) (fun q h => by cases h) d_O_isDocument_26
    · refine lv_aload_n hx hb d_O_isDocument_12 rfl (lv_at hl 0 rfl) ?_
      refine va_get (D := (dC, dI)) (ci := 7) (v := .ref hgo) (C := R_O) (T := F_O) (N := 27) hx hb hw0 in_O hown hK hP 0 rfl rfl 6 (by decide) (hw0 (.fieldLink R_O 17 "TextKeeperModel" "gone" "[Z") (List.mem_of_getElem? (i := 251) rfl)) (fun _ h9 => h9) rfl d_O_isDocument_13 ?_
      refine lv_iload_n hx hb d_O_isDocument_16 rfl (lv_at hl 1 rfl) ?_
      refine va_zald hx hb hK hP 1 0 rfl rfl (x_inK hnd (by decide) c_1 c_2) d_O_isDocument_17 ?_
      refine lv_topi (fun x_3 ex_3 => ?_)
      refine lv_if_ne (tgt := 25) hx hb d_O_isDocument_18 (by decide) (fun c_4 => ?_) (fun c_4 => absurd (by rw [← ex_3]; exact c_4) ((hF.resolve_left c_1).resolve_left c_2))
      refine lv_iconst (v := 0) hx hb d_O_isDocument_25 (by decide) ?_
      exact W.zret (v := 0) (ty := .boolean) hx hb hr rfl (fun t ht hW => ⟨0, rfl, rfl, ht⟩) (fun q h => by cases h) d_O_isDocument_26
set_option maxHeartbeats 4000000 in
set_option maxRecDepth 100000 in
theorem o_asked_T (l : Launch) (dC : Nat → ClassId) (dI : Nat → Nat → Nat) (h0 : Nat) (i_thrown : Int32) (i_down : Int32) (i_lasts : Int32) (v_buffer : Value) (i_size : Int32) (v_lengths : Value) (v_authors : Value) (v_sums : Value) (v_row : Value) (v_made : Value) (i_madeSize : Int32) (v_base : Value) (i_baseSize : Int32) (v_text : Value) (i_textSize : Int32) (i_textSteps : Int32) (v_other : Value) (i_otherSize : Int32) (v_piece : Value) (i_pieceSize : Int32) (i_at : Int32) (i_end : Int32) (i_value : Int32) (nd : Nat) (hgo : Nat) (cZ : ClassId) (fg : Nat → Int32) (hfi : Nat) (cI : ClassId) (ff : Nat → Int32) (hma : Nat) (fm : Nat → Int32) (d9 : Nat) (df : Nat) (dn : Nat) (r9 : Nat) (hnd : nd ≤ 8) (hd9 : d9 < nd) (hgn : fg d9 = 0) (hff : ff d9 = nI df) (hfm : fm d9 = nI dn) (hdn : dn ≤ 64) (ha1 : df ≤ r9) (ha2 : r9 < dn) : Met l y_O_isAsked k_O_isAsked ({ frames := 1, cells := 0, slots := 0, locals := 21 } : Room) (va_Pc [.ref h0, .int (nI d9), .int (nI r9)] (pc_R (dC, dI) [(h0, .inr (7, [.int i_thrown, .int i_down, .int i_lasts, v_buffer, .int i_size, .int (nI nd), .ref hgo, .ref hfi, .ref hma, v_lengths, v_authors, v_sums, v_row, v_made, .int i_madeSize, v_base, .int i_baseSize, v_text, .int i_textSize, .int i_textSteps, v_other, .int i_otherSize, v_piece, .int i_pieceSize, .int i_at, .int i_end, .int i_value])), (hgo, .inl (cZ, 8, .inl (fg))), (hfi, .inl (cI, 8, .inl (ff))), (hma, .inl (cI, 8, .inl (fm)))] [(cZ, .boolean), (cI, .int)])) (vp_Si (fun r => r = 1)) 0 0 (fun _ => False) := by
  refine Met.ofW (cc := prog_9_method_8_code) (maxL := 3) (ret := (some .boolean)) (by decide) rfl ?_
  intro p e s m args below meth c s₁ B hml hv
  obtain ⟨rfl, hP, hK, hN⟩ := hv
  have hx := B.exec
  have hb := B.bytes
  have hr := B.returns
  have hts := atoms_spec (ws := k_O_isAsked) B.pre
  have hw0 : ∀ w ∈ w0, w.before _ s = true := fun w h => hts w (List.mem_cons_of_mem _ h)
  have hown : s.vm.findClass R_O = some m.cls := findClass_of_methodNamed B.named
  have hlocks := B.notSynchronized
  have hP : va_P (dC, dI) vwCl [(h0, .inr (7, [.int i_thrown, .int i_down, .int i_lasts, v_buffer, .int i_size, .int (nI nd), .ref hgo, .ref hfi, .ref hma, v_lengths, v_authors, v_sums, v_row, v_made, .int i_madeSize, v_base, .int i_baseSize, v_text, .int i_textSize, .int i_textSteps, v_other, .int i_otherSize, v_piece, .int i_pieceSize, .int i_at, .int i_end, .int i_value])), (hgo, .inl (cZ, 8, .inl (fg))), (hfi, .inl (cI, 8, .inl (ff))), (hma, .inl (cI, 8, .inl (fm)))] s.heap := hP
  have hl := lv_entry ([.ref h0, .int (nI d9), .int (nI r9)]) (n := 3) (Nat.le_of_ble_eq_true rfl)
  rw [lg_entry_eq]
  generalize (lg_sl ([.ref h0, .int (nI d9), .int (nI r9)]) ++ List.replicate (3 - (lg_sl ([.ref h0, .int (nI d9), .int (nI r9)])).length) Slot.unset).toArray = ls at hl ⊢
  have hl : lv_has ls 3 [(0, .ref h0), (1, .int (nI d9)), (2, .int (nI r9))] := hl
  refine lv_aload_n hx hb d_O_isAsked_0 rfl (lv_at hl 0 rfl) ?_
  refine lv_iload_n hx hb d_O_isAsked_1 rfl (lv_at hl 1 rfl) ?_
  have hPc := hP.sub (ws' := [(h0, .inr (7, [.int i_thrown, .int i_down, .int i_lasts, v_buffer, .int i_size, .int (nI nd), .ref hgo, .ref hfi, .ref hma, v_lengths, v_authors, v_sums, v_row, v_made, .int i_madeSize, v_base, .int i_baseSize, v_text, .int i_textSize, .int i_textSteps, v_other, .int i_otherSize, v_piece, .int i_pieceSize, .int i_at, .int i_end, .int i_value])), (hgo, .inl (cZ, 8, .inl ((fg))))]) [0, 1] rfl
  have hKc := hK.sub (tys' := [(cZ, .boolean)]) [0] rfl
  refine ps_i (va_runV (As := [.int (nI d9)]) (rest := []) ⟨hx, hb, hml, hown, hw0⟩ (o_isDoc_T l dC dI h0 i_thrown i_down i_lasts v_buffer i_size (.ref hfi) (.ref hma) v_lengths v_authors v_sums v_row v_made i_madeSize v_base i_baseSize v_text i_textSize i_textSteps v_other i_otherSize v_piece i_pieceSize i_at i_end i_value nd hgo cZ (fg) d9 (by first | assumption | decide | omega) (by first | assumption | decide | omega) (by first | assumption | decide | omega)) (cwV 1 hw0 (gd_V 252 253 254 161 255 rfl rfl rfl rfl rfl) rfl rfl rfl (by decide +kernel) ⟨by decide +kernel, by decide +kernel⟩) (prV_R hPc hKc hN (va_recv hKc hPc (ci := 7) (q0 := 0) rfl rfl)) rfl rfl hl.1 rfl (lv_room (Nat.le_of_ble_eq_true rfl)) d_O_isAsked_2 ⟨by decide +kernel, by decide +kernel⟩) (fun r_1 hr_1 => ?_)
  obtain rfl : r_1 = 1 := hr_1
  refine lv_if_eq (tgt := 32) hx hb d_O_isAsked_5 (by decide) (fun h9 => absurd h9 (by decide +kernel)) (fun _ => ?_)
  refine lv_iload_n hx hb d_O_isAsked_8 rfl (lv_at hl 2 rfl) ?_
  refine lv_aload_n hx hb d_O_isAsked_9 rfl (lv_at hl 0 rfl) ?_
  refine va_get (D := (dC, dI)) (ci := 7) (v := .ref hfi) (C := R_O) (T := F_O) (N := 27) hx hb hw0 in_O hown hK hP 0 rfl rfl 7 (by decide) (hw0 (.fieldLink R_O 21 "TextKeeperModel" "first" "[I") (List.mem_of_getElem? (i := 256) rfl)) (fun _ h9 => h9) rfl d_O_isAsked_10 ?_
  refine lv_iload_n hx hb d_O_isAsked_13 rfl (lv_at hl 1 rfl) ?_
  refine va_iald hx hb hK hP 2 1 rfl rfl (vp_in_nI (by omega) (by decide)) d_O_isAsked_14 ?_
  refine lv_topi (fun x_2 ex_2 => ?_)
  refine lv_icmp_lt (tgt := 32) hx hb d_O_isAsked_15 (by decide) (fun c_3 => absurd c_3 (by rw [ex_2, nI_clamp (by omega), hff]; exact Int32.not_lt.mpr (nI_le ha1 (by omega)))) (fun c_3 => ?_)
  refine lv_iload_n hx hb d_O_isAsked_18 rfl (lv_at hl 2 rfl) ?_
  refine lv_aload_n hx hb d_O_isAsked_19 rfl (lv_at hl 0 rfl) ?_
  refine va_get (D := (dC, dI)) (ci := 7) (v := .ref hma) (C := R_O) (T := F_O) (N := 27) hx hb hw0 in_O hown hK hP 0 rfl rfl 8 (by decide) (hw0 (.fieldLink R_O 25 "TextKeeperModel" "many" "[I") (List.mem_of_getElem? (i := 257) rfl)) (fun _ h9 => h9) rfl d_O_isAsked_20 ?_
  refine lv_iload_n hx hb d_O_isAsked_23 rfl (lv_at hl 1 rfl) ?_
  refine va_iald hx hb hK hP 3 1 rfl rfl (vp_in_nI (by omega) (by decide)) d_O_isAsked_24 ?_
  refine lv_topi (fun x_4 ex_4 => ?_)
  refine lv_icmp_ge (tgt := 32) hx hb d_O_isAsked_25 (by decide) (fun c_5 => absurd c_5 (by rw [ex_4, nI_clamp (by omega), hfm]; exact nI_ge ha2 (by omega))) (fun c_5 => ?_)
  refine lv_iconst (v := 1) hx hb d_O_isAsked_28 (by decide) ?_
  refine lv_goto (tgt := 33) hx hb d_O_isAsked_29 (by decide) ?_
  exact W.zret (v := 1) (ty := .boolean) hx hb hr rfl (fun t ht hW => ⟨1, rfl, rfl, ht⟩) (fun q h => by cases h) d_O_isAsked_33
set_option maxHeartbeats 4000000 in
set_option maxRecDepth 100000 in
theorem o_asked_F (l : Launch) (dC : Nat → ClassId) (dI : Nat → Nat → Nat) (h0 : Nat) (i_thrown : Int32) (i_down : Int32) (i_lasts : Int32) (v_buffer : Value) (i_size : Int32) (v_lengths : Value) (v_authors : Value) (v_sums : Value) (v_row : Value) (v_made : Value) (i_madeSize : Int32) (v_base : Value) (i_baseSize : Int32) (v_text : Value) (i_textSize : Int32) (i_textSteps : Int32) (v_other : Value) (i_otherSize : Int32) (v_piece : Value) (i_pieceSize : Int32) (i_at : Int32) (i_end : Int32) (i_value : Int32) (nd : Nat) (hgo : Nat) (cZ : ClassId) (fg : Nat → Int32) (hfi : Nat) (cI : ClassId) (ff : Nat → Int32) (hma : Nat) (fm : Nat → Int32) (d9 : Nat) (df : Nat) (dn : Nat) (a1 : Int32) (hnd : nd ≤ 8) (hd9 : d9 < nd) (hgn : fg d9 = 0) (hff : ff d9 = nI df) (hfm : fm d9 = nI dn) (hdn : dn ≤ 64) (hna : a1 < nI df ∨ nI dn ≤ a1) : Met l y_O_isAsked k_O_isAsked ({ frames := 1, cells := 0, slots := 0, locals := 21 } : Room) (va_Pc [.ref h0, .int (nI d9), .int a1] (pc_R (dC, dI) [(h0, .inr (7, [.int i_thrown, .int i_down, .int i_lasts, v_buffer, .int i_size, .int (nI nd), .ref hgo, .ref hfi, .ref hma, v_lengths, v_authors, v_sums, v_row, v_made, .int i_madeSize, v_base, .int i_baseSize, v_text, .int i_textSize, .int i_textSteps, v_other, .int i_otherSize, v_piece, .int i_pieceSize, .int i_at, .int i_end, .int i_value])), (hgo, .inl (cZ, 8, .inl (fg))), (hfi, .inl (cI, 8, .inl (ff))), (hma, .inl (cI, 8, .inl (fm)))] [(cZ, .boolean), (cI, .int)])) (vp_Si (fun r => r = 0)) 0 0 (fun _ => False) := by
  refine Met.ofW (cc := prog_9_method_8_code) (maxL := 3) (ret := (some .boolean)) (by decide) rfl ?_
  intro p e s m args below meth c s₁ B hml hv
  obtain ⟨rfl, hP, hK, hN⟩ := hv
  have hx := B.exec
  have hb := B.bytes
  have hr := B.returns
  have hts := atoms_spec (ws := k_O_isAsked) B.pre
  have hw0 : ∀ w ∈ w0, w.before _ s = true := fun w h => hts w (List.mem_cons_of_mem _ h)
  have hown : s.vm.findClass R_O = some m.cls := findClass_of_methodNamed B.named
  have hlocks := B.notSynchronized
  have hP : va_P (dC, dI) vwCl [(h0, .inr (7, [.int i_thrown, .int i_down, .int i_lasts, v_buffer, .int i_size, .int (nI nd), .ref hgo, .ref hfi, .ref hma, v_lengths, v_authors, v_sums, v_row, v_made, .int i_madeSize, v_base, .int i_baseSize, v_text, .int i_textSize, .int i_textSteps, v_other, .int i_otherSize, v_piece, .int i_pieceSize, .int i_at, .int i_end, .int i_value])), (hgo, .inl (cZ, 8, .inl (fg))), (hfi, .inl (cI, 8, .inl (ff))), (hma, .inl (cI, 8, .inl (fm)))] s.heap := hP
  have hl := lv_entry ([.ref h0, .int (nI d9), .int a1]) (n := 3) (Nat.le_of_ble_eq_true rfl)
  rw [lg_entry_eq]
  generalize (lg_sl ([.ref h0, .int (nI d9), .int a1]) ++ List.replicate (3 - (lg_sl ([.ref h0, .int (nI d9), .int a1])).length) Slot.unset).toArray = ls at hl ⊢
  have hl : lv_has ls 3 [(0, .ref h0), (1, .int (nI d9)), (2, .int a1)] := hl
  refine lv_aload_n hx hb d_O_isAsked_0 rfl (lv_at hl 0 rfl) ?_
  refine lv_iload_n hx hb d_O_isAsked_1 rfl (lv_at hl 1 rfl) ?_
  have hPc := hP.sub (ws' := [(h0, .inr (7, [.int i_thrown, .int i_down, .int i_lasts, v_buffer, .int i_size, .int (nI nd), .ref hgo, .ref hfi, .ref hma, v_lengths, v_authors, v_sums, v_row, v_made, .int i_madeSize, v_base, .int i_baseSize, v_text, .int i_textSize, .int i_textSteps, v_other, .int i_otherSize, v_piece, .int i_pieceSize, .int i_at, .int i_end, .int i_value])), (hgo, .inl (cZ, 8, .inl ((fg))))]) [0, 1] rfl
  have hKc := hK.sub (tys' := [(cZ, .boolean)]) [0] rfl
  refine ps_i (va_runV (As := [.int (nI d9)]) (rest := []) ⟨hx, hb, hml, hown, hw0⟩ (o_isDoc_T l dC dI h0 i_thrown i_down i_lasts v_buffer i_size (.ref hfi) (.ref hma) v_lengths v_authors v_sums v_row v_made i_madeSize v_base i_baseSize v_text i_textSize i_textSteps v_other i_otherSize v_piece i_pieceSize i_at i_end i_value nd hgo cZ (fg) d9 (by first | assumption | decide | omega) (by first | assumption | decide | omega) (by first | assumption | decide | omega)) (cwV 1 hw0 (gd_V 252 253 254 161 255 rfl rfl rfl rfl rfl) rfl rfl rfl (by decide +kernel) ⟨by decide +kernel, by decide +kernel⟩) (prV_R hPc hKc hN (va_recv hKc hPc (ci := 7) (q0 := 0) rfl rfl)) rfl rfl hl.1 rfl (lv_room (Nat.le_of_ble_eq_true rfl)) d_O_isAsked_2 ⟨by decide +kernel, by decide +kernel⟩) (fun r_1 hr_1 => ?_)
  obtain rfl : r_1 = 1 := hr_1
  refine lv_if_eq (tgt := 32) hx hb d_O_isAsked_5 (by decide) (fun h9 => absurd h9 (by decide +kernel)) (fun _ => ?_)
  refine lv_iload_n hx hb d_O_isAsked_8 rfl (lv_at hl 2 rfl) ?_
  refine lv_aload_n hx hb d_O_isAsked_9 rfl (lv_at hl 0 rfl) ?_
  refine va_get (D := (dC, dI)) (ci := 7) (v := .ref hfi) (C := R_O) (T := F_O) (N := 27) hx hb hw0 in_O hown hK hP 0 rfl rfl 7 (by decide) (hw0 (.fieldLink R_O 21 "TextKeeperModel" "first" "[I") (List.mem_of_getElem? (i := 256) rfl)) (fun _ h9 => h9) rfl d_O_isAsked_10 ?_
  refine lv_iload_n hx hb d_O_isAsked_13 rfl (lv_at hl 1 rfl) ?_
  refine va_iald hx hb hK hP 2 1 rfl rfl (vp_in_nI (by omega) (by decide)) d_O_isAsked_14 ?_
  refine lv_topi (fun x_2 ex_2 => ?_)
  refine lv_icmp_lt (tgt := 32) hx hb d_O_isAsked_15 (by decide) (fun c_3 => ?_) (fun c_3 => ?_)
  · refine lv_iconst (v := 0) hx hb d_O_isAsked_32 (by decide) ?_
    exact W.zret (v := 0) (ty := .boolean) hx hb hr rfl (fun t ht hW => ⟨0, rfl, rfl, ht⟩) (fun q h => by cases h) d_O_isAsked_33
  · refine lv_iload_n hx hb d_O_isAsked_18 rfl (lv_at hl 2 rfl) ?_
    refine lv_aload_n hx hb d_O_isAsked_19 rfl (lv_at hl 0 rfl) ?_
    refine va_get (D := (dC, dI)) (ci := 7) (v := .ref hma) (C := R_O) (T := F_O) (N := 27) hx hb hw0 in_O hown hK hP 0 rfl rfl 8 (by decide) (hw0 (.fieldLink R_O 25 "TextKeeperModel" "many" "[I") (List.mem_of_getElem? (i := 257) rfl)) (fun _ h9 => h9) rfl d_O_isAsked_20 ?_
    refine lv_iload_n hx hb d_O_isAsked_23 rfl (lv_at hl 1 rfl) ?_
    refine va_iald hx hb hK hP 3 1 rfl rfl (vp_in_nI (by omega) (by decide)) d_O_isAsked_24 ?_
    refine lv_topi (fun x_4 ex_4 => ?_)
    refine lv_icmp_ge (tgt := 32) hx hb d_O_isAsked_25 (by decide) (fun c_5 => ?_) (fun c_5 => absurd hna (fun q => q.elim (fun z => c_3 (by rw [ex_2, nI_clamp (by omega), hff]; exact z)) (fun z => c_5 (by rw [ex_4, nI_clamp (by omega), hfm]; exact z))))
    refine lv_iconst (v := 0) hx hb d_O_isAsked_32 (by decide) ?_
    exact W.zret (v := 0) (ty := .boolean) hx hb hr rfl (fun t ht hW => ⟨0, rfl, rfl, ht⟩) (fun q h => by cases h) d_O_isAsked_33
set_option maxHeartbeats 4000000 in
set_option maxRecDepth 100000 in
theorem o_asked_N (l : Launch) (dC : Nat → ClassId) (dI : Nat → Nat → Nat) (h0 : Nat) (i_thrown : Int32) (i_down : Int32) (i_lasts : Int32) (v_buffer : Value) (i_size : Int32) (v_lengths : Value) (v_authors : Value) (v_sums : Value) (v_row : Value) (v_made : Value) (i_madeSize : Int32) (v_base : Value) (i_baseSize : Int32) (v_text : Value) (i_textSize : Int32) (i_textSteps : Int32) (v_other : Value) (i_otherSize : Int32) (v_piece : Value) (i_pieceSize : Int32) (i_at : Int32) (i_end : Int32) (i_value : Int32) (nd : Nat) (hgo : Nat) (cZ : ClassId) (fg : Nat → Int32) (hfi : Nat) (cI : ClassId) (ff : Nat → Int32) (hma : Nat) (fm : Nat → Int32) (a0 : Int32) (a1 : Int32) (hnd : nd ≤ 8) (hF : a0 < 0 ∨ nI nd ≤ a0 ∨ ¬ fg a0.toNatClampNeg = 0) : Met l y_O_isAsked k_O_isAsked ({ frames := 1, cells := 0, slots := 0, locals := 21 } : Room) (va_Pc [.ref h0, .int a0, .int a1] (pc_R (dC, dI) [(h0, .inr (7, [.int i_thrown, .int i_down, .int i_lasts, v_buffer, .int i_size, .int (nI nd), .ref hgo, .ref hfi, .ref hma, v_lengths, v_authors, v_sums, v_row, v_made, .int i_madeSize, v_base, .int i_baseSize, v_text, .int i_textSize, .int i_textSteps, v_other, .int i_otherSize, v_piece, .int i_pieceSize, .int i_at, .int i_end, .int i_value])), (hgo, .inl (cZ, 8, .inl (fg))), (hfi, .inl (cI, 8, .inl (ff))), (hma, .inl (cI, 8, .inl (fm)))] [(cZ, .boolean), (cI, .int)])) (vp_Si (fun r => r = 0)) 0 0 (fun _ => False) := by
  refine Met.ofW (cc := prog_9_method_8_code) (maxL := 3) (ret := (some .boolean)) (by decide) rfl ?_
  intro p e s m args below meth c s₁ B hml hv
  obtain ⟨rfl, hP, hK, hN⟩ := hv
  have hx := B.exec
  have hb := B.bytes
  have hr := B.returns
  have hts := atoms_spec (ws := k_O_isAsked) B.pre
  have hw0 : ∀ w ∈ w0, w.before _ s = true := fun w h => hts w (List.mem_cons_of_mem _ h)
  have hown : s.vm.findClass R_O = some m.cls := findClass_of_methodNamed B.named
  have hlocks := B.notSynchronized
  have hP : va_P (dC, dI) vwCl [(h0, .inr (7, [.int i_thrown, .int i_down, .int i_lasts, v_buffer, .int i_size, .int (nI nd), .ref hgo, .ref hfi, .ref hma, v_lengths, v_authors, v_sums, v_row, v_made, .int i_madeSize, v_base, .int i_baseSize, v_text, .int i_textSize, .int i_textSteps, v_other, .int i_otherSize, v_piece, .int i_pieceSize, .int i_at, .int i_end, .int i_value])), (hgo, .inl (cZ, 8, .inl (fg))), (hfi, .inl (cI, 8, .inl (ff))), (hma, .inl (cI, 8, .inl (fm)))] s.heap := hP
  have hl := lv_entry ([.ref h0, .int a0, .int a1]) (n := 3) (Nat.le_of_ble_eq_true rfl)
  rw [lg_entry_eq]
  generalize (lg_sl ([.ref h0, .int a0, .int a1]) ++ List.replicate (3 - (lg_sl ([.ref h0, .int a0, .int a1])).length) Slot.unset).toArray = ls at hl ⊢
  have hl : lv_has ls 3 [(0, .ref h0), (1, .int a0), (2, .int a1)] := hl
  refine lv_aload_n hx hb d_O_isAsked_0 rfl (lv_at hl 0 rfl) ?_
  refine lv_iload_n hx hb d_O_isAsked_1 rfl (lv_at hl 1 rfl) ?_
  have hPc := hP.sub (ws' := [(h0, .inr (7, [.int i_thrown, .int i_down, .int i_lasts, v_buffer, .int i_size, .int (nI nd), .ref hgo, .ref hfi, .ref hma, v_lengths, v_authors, v_sums, v_row, v_made, .int i_madeSize, v_base, .int i_baseSize, v_text, .int i_textSize, .int i_textSteps, v_other, .int i_otherSize, v_piece, .int i_pieceSize, .int i_at, .int i_end, .int i_value])), (hgo, .inl (cZ, 8, .inl ((fg))))]) [0, 1] rfl
  have hKc := hK.sub (tys' := [(cZ, .boolean)]) [0] rfl
  refine ps_i (va_runV (As := [.int a0]) (rest := []) ⟨hx, hb, hml, hown, hw0⟩ (o_isDoc_F l dC dI h0 i_thrown i_down i_lasts v_buffer i_size (.ref hfi) (.ref hma) v_lengths v_authors v_sums v_row v_made i_madeSize v_base i_baseSize v_text i_textSize i_textSteps v_other i_otherSize v_piece i_pieceSize i_at i_end i_value nd hgo cZ (fg) a0 (by first | assumption | decide | omega) (by first | assumption | decide | omega)) (cwV 1 hw0 (gd_V 252 253 254 161 255 rfl rfl rfl rfl rfl) rfl rfl rfl (by decide +kernel) ⟨by decide +kernel, by decide +kernel⟩) (prV_R hPc hKc hN (va_recv hKc hPc (ci := 7) (q0 := 0) rfl rfl)) rfl rfl hl.1 rfl (lv_room (Nat.le_of_ble_eq_true rfl)) d_O_isAsked_2 ⟨by decide +kernel, by decide +kernel⟩) (fun r_1 hr_1 => ?_)
  obtain rfl : r_1 = 0 := hr_1
  refine lv_if_eq (tgt := 32) hx hb d_O_isAsked_5 (by decide) (fun _ => ?_) (fun h9 => absurd h9 (by decide +kernel))
  refine lv_iconst (v := 0) hx hb d_O_isAsked_32 (by decide) ?_
  exact W.zret (v := 0) (ty := .boolean) hx hb hr rfl (fun t ht hW => ⟨0, rfl, rfl, ht⟩) (fun q h => by cases h) d_O_isAsked_33
set_option maxHeartbeats 4000000 in
set_option maxRecDepth 100000 in
theorem o_kept_T (l : Launch) (dC : Nat → ClassId) (dI : Nat → Nat → Nat) (h0 : Nat) (i_thrown : Int32) (i_down : Int32) (i_lasts : Int32) (v_buffer : Value) (i_size : Int32) (v_first : Value) (v_many : Value) (v_authors : Value) (v_sums : Value) (v_row : Value) (v_made : Value) (i_madeSize : Int32) (v_base : Value) (i_baseSize : Int32) (v_text : Value) (i_textSize : Int32) (i_textSteps : Int32) (v_other : Value) (i_otherSize : Int32) (v_piece : Value) (i_pieceSize : Int32) (i_at : Int32) (i_end : Int32) (i_value : Int32) (nd : Nat) (hgo : Nat) (cZ : ClassId) (fg : Nat → Int32) (hln : Nat) (cL : ClassId) (fl : Nat → Int32) (ln : Nat → Option Nat) (d9 : Nat) (r9 : Nat) (v9 : Nat) (hnd : nd ≤ 8) (hfl : ∀ j, j < 512 → fl j = vI (ln j)) (hbd : ∀ j v, j < 512 → ln j = some v → v ≤ 16384) (hd9 : d9 < nd) (hgn : fg d9 = 0) (hr9 : r9 < 64) (hln9 : ln (64 * d9 + r9) = some v9) : Met l y_O_kept k_O_kept ({ frames := 1, cells := 0, slots := 0, locals := 21 } : Room) (va_Pc [.ref h0, .int (nI d9), .int (nI r9)] (pc_R (dC, dI) [(h0, .inr (7, [.int i_thrown, .int i_down, .int i_lasts, v_buffer, .int i_size, .int (nI nd), .ref hgo, v_first, v_many, .ref hln, v_authors, v_sums, v_row, v_made, .int i_madeSize, v_base, .int i_baseSize, v_text, .int i_textSize, .int i_textSteps, v_other, .int i_otherSize, v_piece, .int i_pieceSize, .int i_at, .int i_end, .int i_value])), (hgo, .inl (cZ, 8, .inl (fg))), (hln, .inl (cL, 512, .inl (fl)))] [(cZ, .boolean), (cL, .short)])) (vp_Si (fun r => r = nI (64 * d9 + r9))) 0 0 (fun _ => False) := by
  refine Met.ofW (cc := prog_9_method_9_code) (maxL := 3) (ret := (some .int)) (by decide) rfl ?_
  intro p e s m args below meth c s₁ B hml hv
  obtain ⟨rfl, hP, hK, hN⟩ := hv
  have hx := B.exec
  have hb := B.bytes
  have hr := B.returns
  have hts := atoms_spec (ws := k_O_kept) B.pre
  have hw0 : ∀ w ∈ w0, w.before _ s = true := fun w h => hts w (List.mem_cons_of_mem _ h)
  have hown : s.vm.findClass R_O = some m.cls := findClass_of_methodNamed B.named
  have hlocks := B.notSynchronized
  have hP : va_P (dC, dI) vwCl [(h0, .inr (7, [.int i_thrown, .int i_down, .int i_lasts, v_buffer, .int i_size, .int (nI nd), .ref hgo, v_first, v_many, .ref hln, v_authors, v_sums, v_row, v_made, .int i_madeSize, v_base, .int i_baseSize, v_text, .int i_textSize, .int i_textSteps, v_other, .int i_otherSize, v_piece, .int i_pieceSize, .int i_at, .int i_end, .int i_value])), (hgo, .inl (cZ, 8, .inl (fg))), (hln, .inl (cL, 512, .inl (fl)))] s.heap := hP
  have hl := lv_entry ([.ref h0, .int (nI d9), .int (nI r9)]) (n := 3) (Nat.le_of_ble_eq_true rfl)
  rw [lg_entry_eq]
  generalize (lg_sl ([.ref h0, .int (nI d9), .int (nI r9)]) ++ List.replicate (3 - (lg_sl ([.ref h0, .int (nI d9), .int (nI r9)])).length) Slot.unset).toArray = ls at hl ⊢
  have hl : lv_has ls 3 [(0, .ref h0), (1, .int (nI d9)), (2, .int (nI r9))] := hl
  refine lv_aload_n hx hb d_O_kept_0 rfl (lv_at hl 0 rfl) ?_
  refine lv_iload_n hx hb d_O_kept_1 rfl (lv_at hl 1 rfl) ?_
  have hPc := hP.sub (ws' := [(h0, .inr (7, [.int i_thrown, .int i_down, .int i_lasts, v_buffer, .int i_size, .int (nI nd), .ref hgo, v_first, v_many, .ref hln, v_authors, v_sums, v_row, v_made, .int i_madeSize, v_base, .int i_baseSize, v_text, .int i_textSize, .int i_textSteps, v_other, .int i_otherSize, v_piece, .int i_pieceSize, .int i_at, .int i_end, .int i_value])), (hgo, .inl (cZ, 8, .inl ((fg))))]) [0, 1] rfl
  have hKc := hK.sub (tys' := [(cZ, .boolean)]) [0] rfl
  refine ps_i (va_runV (As := [.int (nI d9)]) (rest := []) ⟨hx, hb, hml, hown, hw0⟩ (o_isDoc_T l dC dI h0 i_thrown i_down i_lasts v_buffer i_size v_first v_many (.ref hln) v_authors v_sums v_row v_made i_madeSize v_base i_baseSize v_text i_textSize i_textSteps v_other i_otherSize v_piece i_pieceSize i_at i_end i_value nd hgo cZ (fg) d9 (by first | assumption | decide | omega) (by first | assumption | decide | omega) (by first | assumption | decide | omega)) (cwV 1 hw0 (gd_V 252 253 254 161 255 rfl rfl rfl rfl rfl) rfl rfl rfl (by decide +kernel) ⟨by decide +kernel, by decide +kernel⟩) (prV_R hPc hKc hN (va_recv hKc hPc (ci := 7) (q0 := 0) rfl rfl)) rfl rfl hl.1 rfl (lv_room (Nat.le_of_ble_eq_true rfl)) d_O_kept_2 ⟨by decide +kernel, by decide +kernel⟩) (fun r_1 hr_1 => ?_)
  obtain rfl : r_1 = 1 := hr_1
  refine lv_if_eq (tgt := 42) hx hb d_O_kept_5 (by decide) (fun h9 => absurd h9 (by decide +kernel)) (fun _ => ?_)
  refine lv_iload_n hx hb d_O_kept_8 rfl (lv_at hl 2 rfl) ?_
  refine lv_if_lt (tgt := 42) hx hb d_O_kept_9 (by decide) (fun c_2 => absurd c_2 (nI_pos (by omega))) (fun c_2 => ?_)
  refine lv_iload_n hx hb d_O_kept_12 rfl (lv_at hl 2 rfl) ?_
  refine lv_bipush (v := 64) hx hb d_O_kept_13 (by decide +kernel) ?_
  refine lv_icmp_ge (tgt := 42) hx hb d_O_kept_15 (by decide) (fun c_3 => absurd c_3 (nI_ge hr9 (by decide))) (fun c_3 => ?_)
  refine lv_aload_n hx hb d_O_kept_18 rfl (lv_at hl 0 rfl) ?_
  refine va_get (D := (dC, dI)) (ci := 7) (v := .ref hln) (C := R_O) (T := F_O) (N := 27) hx hb hw0 in_O hown hK hP 0 rfl rfl 9 (by decide) (hw0 (.fieldLink R_O 28 "TextKeeperModel" "lengths" "[S") (List.mem_of_getElem? (i := 207) rfl)) (fun _ h9 => h9) rfl d_O_kept_19 ?_
  refine lv_bipush (v := 64) hx hb d_O_kept_22 (by decide +kernel) ?_
  refine lv_iload_n hx hb d_O_kept_24 rfl (lv_at hl 1 rfl) ?_
  refine lv_imul hx hb d_O_kept_25 ?_
  refine lv_topi (fun x_4 ex_4 => ?_)
  obtain rfl : x_4 = (nI (64 * d9)) := by rw [ex_4]; exact (show nI 64 * nI d9 = nI (64 * d9) from pk_mul _ _)
  clear ex_4
  refine lv_iload_n hx hb d_O_kept_26 rfl (lv_at hl 2 rfl) ?_
  refine lv_iadd hx hb d_O_kept_27 ?_
  refine lv_topi (fun x_5 ex_5 => ?_)
  obtain rfl : x_5 = (nI (64 * d9 + r9)) := by rw [ex_5]; exact nI_add _ _
  clear ex_5
  refine va_sald hx hb hK hP 2 1 rfl rfl (vp_in_nI (by omega) (by decide)) d_O_kept_28 ?_
  refine lv_topi (fun x_6 ex_6 => ?_)
  refine lv_iconst (v := (-1)) hx hb d_O_kept_29 (by decide) ?_
  refine lv_icmp_eq (tgt := 42) hx hb d_O_kept_30 (by decide) (fun c_7 => absurd c_7 (by rw [ex_6, nI_clamp (by omega), hfl _ (by omega), hln9]; exact nI_m1 (by have := hbd _ _ (by omega) hln9; omega))) (fun c_7 => ?_)
  refine lv_bipush (v := 64) hx hb d_O_kept_33 (by decide +kernel) ?_
  refine lv_iload_n hx hb d_O_kept_35 rfl (lv_at hl 1 rfl) ?_
  refine lv_imul hx hb d_O_kept_36 ?_
  refine lv_topi (fun x_8 ex_8 => ?_)
  obtain rfl : x_8 = (nI (64 * d9)) := by rw [ex_8]; exact (show nI 64 * nI d9 = nI (64 * d9) from pk_mul _ _)
  clear ex_8
  refine lv_iload_n hx hb d_O_kept_37 rfl (lv_at hl 2 rfl) ?_
  refine lv_iadd hx hb d_O_kept_38 ?_
  refine lv_topi (fun x_9 ex_9 => ?_)
  obtain rfl : x_9 = (nI (64 * d9 + r9)) := by rw [ex_9]; exact nI_add _ _
  clear ex_9
  refine lv_goto (tgt := 43) hx hb d_O_kept_39 (by decide) ?_
  exact W.iret (v := (nI (64 * d9 + r9))) hx hb hr (fun t ht hW => ⟨(nI (64 * d9 + r9)), rfl, rfl, ht⟩) (fun q h => by cases h) d_O_kept_43
set_option maxHeartbeats 4000000 in
set_option maxRecDepth 100000 in
theorem o_kept_N (l : Launch) (dC : Nat → ClassId) (dI : Nat → Nat → Nat) (h0 : Nat) (i_thrown : Int32) (i_down : Int32) (i_lasts : Int32) (v_buffer : Value) (i_size : Int32) (v_first : Value) (v_many : Value) (v_authors : Value) (v_sums : Value) (v_row : Value) (v_made : Value) (i_madeSize : Int32) (v_base : Value) (i_baseSize : Int32) (v_text : Value) (i_textSize : Int32) (i_textSteps : Int32) (v_other : Value) (i_otherSize : Int32) (v_piece : Value) (i_pieceSize : Int32) (i_at : Int32) (i_end : Int32) (i_value : Int32) (nd : Nat) (hgo : Nat) (cZ : ClassId) (fg : Nat → Int32) (hln : Nat) (cL : ClassId) (fl : Nat → Int32) (a0 : Int32) (a1 : Int32) (hnd : nd ≤ 8) (hF : a0 < 0 ∨ nI nd ≤ a0 ∨ ¬ fg a0.toNatClampNeg = 0) : Met l y_O_kept k_O_kept ({ frames := 1, cells := 0, slots := 0, locals := 21 } : Room) (va_Pc [.ref h0, .int a0, .int a1] (pc_R (dC, dI) [(h0, .inr (7, [.int i_thrown, .int i_down, .int i_lasts, v_buffer, .int i_size, .int (nI nd), .ref hgo, v_first, v_many, .ref hln, v_authors, v_sums, v_row, v_made, .int i_madeSize, v_base, .int i_baseSize, v_text, .int i_textSize, .int i_textSteps, v_other, .int i_otherSize, v_piece, .int i_pieceSize, .int i_at, .int i_end, .int i_value])), (hgo, .inl (cZ, 8, .inl (fg))), (hln, .inl (cL, 512, .inl (fl)))] [(cZ, .boolean), (cL, .short)])) (vp_Si (fun r => r = (-1))) 0 0 (fun _ => False) := by
  refine Met.ofW (cc := prog_9_method_9_code) (maxL := 3) (ret := (some .int)) (by decide) rfl ?_
  intro p e s m args below meth c s₁ B hml hv
  obtain ⟨rfl, hP, hK, hN⟩ := hv
  have hx := B.exec
  have hb := B.bytes
  have hr := B.returns
  have hts := atoms_spec (ws := k_O_kept) B.pre
  have hw0 : ∀ w ∈ w0, w.before _ s = true := fun w h => hts w (List.mem_cons_of_mem _ h)
  have hown : s.vm.findClass R_O = some m.cls := findClass_of_methodNamed B.named
  have hlocks := B.notSynchronized
  have hP : va_P (dC, dI) vwCl [(h0, .inr (7, [.int i_thrown, .int i_down, .int i_lasts, v_buffer, .int i_size, .int (nI nd), .ref hgo, v_first, v_many, .ref hln, v_authors, v_sums, v_row, v_made, .int i_madeSize, v_base, .int i_baseSize, v_text, .int i_textSize, .int i_textSteps, v_other, .int i_otherSize, v_piece, .int i_pieceSize, .int i_at, .int i_end, .int i_value])), (hgo, .inl (cZ, 8, .inl (fg))), (hln, .inl (cL, 512, .inl (fl)))] s.heap := hP
  have hl := lv_entry ([.ref h0, .int a0, .int a1]) (n := 3) (Nat.le_of_ble_eq_true rfl)
  rw [lg_entry_eq]
  generalize (lg_sl ([.ref h0, .int a0, .int a1]) ++ List.replicate (3 - (lg_sl ([.ref h0, .int a0, .int a1])).length) Slot.unset).toArray = ls at hl ⊢
  have hl : lv_has ls 3 [(0, .ref h0), (1, .int a0), (2, .int a1)] := hl
  refine lv_aload_n hx hb d_O_kept_0 rfl (lv_at hl 0 rfl) ?_
  refine lv_iload_n hx hb d_O_kept_1 rfl (lv_at hl 1 rfl) ?_
  have hPc := hP.sub (ws' := [(h0, .inr (7, [.int i_thrown, .int i_down, .int i_lasts, v_buffer, .int i_size, .int (nI nd), .ref hgo, v_first, v_many, .ref hln, v_authors, v_sums, v_row, v_made, .int i_madeSize, v_base, .int i_baseSize, v_text, .int i_textSize, .int i_textSteps, v_other, .int i_otherSize, v_piece, .int i_pieceSize, .int i_at, .int i_end, .int i_value])), (hgo, .inl (cZ, 8, .inl ((fg))))]) [0, 1] rfl
  have hKc := hK.sub (tys' := [(cZ, .boolean)]) [0] rfl
  refine ps_i (va_runV (As := [.int a0]) (rest := []) ⟨hx, hb, hml, hown, hw0⟩ (o_isDoc_F l dC dI h0 i_thrown i_down i_lasts v_buffer i_size v_first v_many (.ref hln) v_authors v_sums v_row v_made i_madeSize v_base i_baseSize v_text i_textSize i_textSteps v_other i_otherSize v_piece i_pieceSize i_at i_end i_value nd hgo cZ (fg) a0 (by first | assumption | decide | omega) (by first | assumption | decide | omega)) (cwV 1 hw0 (gd_V 252 253 254 161 255 rfl rfl rfl rfl rfl) rfl rfl rfl (by decide +kernel) ⟨by decide +kernel, by decide +kernel⟩) (prV_R hPc hKc hN (va_recv hKc hPc (ci := 7) (q0 := 0) rfl rfl)) rfl rfl hl.1 rfl (lv_room (Nat.le_of_ble_eq_true rfl)) d_O_kept_2 ⟨by decide +kernel, by decide +kernel⟩) (fun r_1 hr_1 => ?_)
  obtain rfl : r_1 = 0 := hr_1
  refine lv_if_eq (tgt := 42) hx hb d_O_kept_5 (by decide) (fun _ => ?_) (fun h9 => absurd h9 (by decide +kernel))
  refine lv_iconst (v := (-1)) hx hb d_O_kept_42 (by decide) ?_
  exact W.iret (v := (-1)) hx hb hr (fun t ht hW => ⟨(-1), rfl, rfl, ht⟩) (fun q h => by cases h) d_O_kept_43
set_option maxHeartbeats 4000000 in
set_option maxRecDepth 100000 in
theorem o_kept_F (l : Launch) (dC : Nat → ClassId) (dI : Nat → Nat → Nat) (h0 : Nat) (i_thrown : Int32) (i_down : Int32) (i_lasts : Int32) (v_buffer : Value) (i_size : Int32) (v_first : Value) (v_many : Value) (v_authors : Value) (v_sums : Value) (v_row : Value) (v_made : Value) (i_madeSize : Int32) (v_base : Value) (i_baseSize : Int32) (v_text : Value) (i_textSize : Int32) (i_textSteps : Int32) (v_other : Value) (i_otherSize : Int32) (v_piece : Value) (i_pieceSize : Int32) (i_at : Int32) (i_end : Int32) (i_value : Int32) (nd : Nat) (hgo : Nat) (cZ : ClassId) (fg : Nat → Int32) (hln : Nat) (cL : ClassId) (fl : Nat → Int32) (ln : Nat → Option Nat) (d9 : Nat) (a1 : Int32) (hnd : nd ≤ 8) (hfl : ∀ j, j < 512 → fl j = vI (ln j)) (hbd : ∀ j v, j < 512 → ln j = some v → v ≤ 16384) (hd9 : d9 < nd) (hgn : fg d9 = 0) (hF : a1 < 0 ∨ nI 64 ≤ a1) : Met l y_O_kept k_O_kept ({ frames := 1, cells := 0, slots := 0, locals := 21 } : Room) (va_Pc [.ref h0, .int (nI d9), .int a1] (pc_R (dC, dI) [(h0, .inr (7, [.int i_thrown, .int i_down, .int i_lasts, v_buffer, .int i_size, .int (nI nd), .ref hgo, v_first, v_many, .ref hln, v_authors, v_sums, v_row, v_made, .int i_madeSize, v_base, .int i_baseSize, v_text, .int i_textSize, .int i_textSteps, v_other, .int i_otherSize, v_piece, .int i_pieceSize, .int i_at, .int i_end, .int i_value])), (hgo, .inl (cZ, 8, .inl (fg))), (hln, .inl (cL, 512, .inl (fl)))] [(cZ, .boolean), (cL, .short)])) (vp_Si (fun r => r = (-1))) 0 0 (fun _ => False) := by
  refine Met.ofW (cc := prog_9_method_9_code) (maxL := 3) (ret := (some .int)) (by decide) rfl ?_
  intro p e s m args below meth c s₁ B hml hv
  obtain ⟨rfl, hP, hK, hN⟩ := hv
  have hx := B.exec
  have hb := B.bytes
  have hr := B.returns
  have hts := atoms_spec (ws := k_O_kept) B.pre
  have hw0 : ∀ w ∈ w0, w.before _ s = true := fun w h => hts w (List.mem_cons_of_mem _ h)
  have hown : s.vm.findClass R_O = some m.cls := findClass_of_methodNamed B.named
  have hlocks := B.notSynchronized
  have hP : va_P (dC, dI) vwCl [(h0, .inr (7, [.int i_thrown, .int i_down, .int i_lasts, v_buffer, .int i_size, .int (nI nd), .ref hgo, v_first, v_many, .ref hln, v_authors, v_sums, v_row, v_made, .int i_madeSize, v_base, .int i_baseSize, v_text, .int i_textSize, .int i_textSteps, v_other, .int i_otherSize, v_piece, .int i_pieceSize, .int i_at, .int i_end, .int i_value])), (hgo, .inl (cZ, 8, .inl (fg))), (hln, .inl (cL, 512, .inl (fl)))] s.heap := hP
  have hl := lv_entry ([.ref h0, .int (nI d9), .int a1]) (n := 3) (Nat.le_of_ble_eq_true rfl)
  rw [lg_entry_eq]
  generalize (lg_sl ([.ref h0, .int (nI d9), .int a1]) ++ List.replicate (3 - (lg_sl ([.ref h0, .int (nI d9), .int a1])).length) Slot.unset).toArray = ls at hl ⊢
  have hl : lv_has ls 3 [(0, .ref h0), (1, .int (nI d9)), (2, .int a1)] := hl
  refine lv_aload_n hx hb d_O_kept_0 rfl (lv_at hl 0 rfl) ?_
  refine lv_iload_n hx hb d_O_kept_1 rfl (lv_at hl 1 rfl) ?_
  have hPc := hP.sub (ws' := [(h0, .inr (7, [.int i_thrown, .int i_down, .int i_lasts, v_buffer, .int i_size, .int (nI nd), .ref hgo, v_first, v_many, .ref hln, v_authors, v_sums, v_row, v_made, .int i_madeSize, v_base, .int i_baseSize, v_text, .int i_textSize, .int i_textSteps, v_other, .int i_otherSize, v_piece, .int i_pieceSize, .int i_at, .int i_end, .int i_value])), (hgo, .inl (cZ, 8, .inl ((fg))))]) [0, 1] rfl
  have hKc := hK.sub (tys' := [(cZ, .boolean)]) [0] rfl
  refine ps_i (va_runV (As := [.int (nI d9)]) (rest := []) ⟨hx, hb, hml, hown, hw0⟩ (o_isDoc_T l dC dI h0 i_thrown i_down i_lasts v_buffer i_size v_first v_many (.ref hln) v_authors v_sums v_row v_made i_madeSize v_base i_baseSize v_text i_textSize i_textSteps v_other i_otherSize v_piece i_pieceSize i_at i_end i_value nd hgo cZ (fg) d9 (by first | assumption | decide | omega) (by first | assumption | decide | omega) (by first | assumption | decide | omega)) (cwV 1 hw0 (gd_V 252 253 254 161 255 rfl rfl rfl rfl rfl) rfl rfl rfl (by decide +kernel) ⟨by decide +kernel, by decide +kernel⟩) (prV_R hPc hKc hN (va_recv hKc hPc (ci := 7) (q0 := 0) rfl rfl)) rfl rfl hl.1 rfl (lv_room (Nat.le_of_ble_eq_true rfl)) d_O_kept_2 ⟨by decide +kernel, by decide +kernel⟩) (fun r_1 hr_1 => ?_)
  obtain rfl : r_1 = 1 := hr_1
  refine lv_if_eq (tgt := 42) hx hb d_O_kept_5 (by decide) (fun h9 => absurd h9 (by decide +kernel)) (fun _ => ?_)
  refine lv_iload_n hx hb d_O_kept_8 rfl (lv_at hl 2 rfl) ?_
  refine lv_if_lt (tgt := 42) hx hb d_O_kept_9 (by decide) (fun c_2 => ?_) (fun c_2 => ?_)
  · refine lv_iconst (v := (-1)) hx hb d_O_kept_42 (by decide) ?_
    exact W.iret (v := (-1)) hx hb hr (fun t ht hW => ⟨(-1), rfl, rfl, ht⟩) (fun q h => by cases h) d_O_kept_43
  · refine lv_iload_n hx hb d_O_kept_12 rfl (lv_at hl 2 rfl) ?_
    refine lv_bipush (v := 64) hx hb d_O_kept_13 (by decide +kernel) ?_
    refine lv_icmp_ge (tgt := 42) hx hb d_O_kept_15 (by decide) (fun c_3 => ?_) (fun c_3 => absurd hF (fun q => q.elim c_2 c_3))
    refine lv_iconst (v := (-1)) hx hb d_O_kept_42 (by decide) ?_
    exact W.iret (v := (-1)) hx hb hr (fun t ht hW => ⟨(-1), rfl, rfl, ht⟩) (fun q h => by cases h) d_O_kept_43
set_option maxHeartbeats 4000000 in
set_option maxRecDepth 100000 in
theorem o_kept_G (l : Launch) (dC : Nat → ClassId) (dI : Nat → Nat → Nat) (h0 : Nat) (i_thrown : Int32) (i_down : Int32) (i_lasts : Int32) (v_buffer : Value) (i_size : Int32) (v_first : Value) (v_many : Value) (v_authors : Value) (v_sums : Value) (v_row : Value) (v_made : Value) (i_madeSize : Int32) (v_base : Value) (i_baseSize : Int32) (v_text : Value) (i_textSize : Int32) (i_textSteps : Int32) (v_other : Value) (i_otherSize : Int32) (v_piece : Value) (i_pieceSize : Int32) (i_at : Int32) (i_end : Int32) (i_value : Int32) (nd : Nat) (hgo : Nat) (cZ : ClassId) (fg : Nat → Int32) (hln : Nat) (cL : ClassId) (fl : Nat → Int32) (ln : Nat → Option Nat) (d9 : Nat) (r9 : Nat) (hnd : nd ≤ 8) (hfl : ∀ j, j < 512 → fl j = vI (ln j)) (hbd : ∀ j v, j < 512 → ln j = some v → v ≤ 16384) (hd9 : d9 < nd) (hgn : fg d9 = 0) (hr9 : r9 < 64) (hln9 : ln (64 * d9 + r9) = none) : Met l y_O_kept k_O_kept ({ frames := 1, cells := 0, slots := 0, locals := 21 } : Room) (va_Pc [.ref h0, .int (nI d9), .int (nI r9)] (pc_R (dC, dI) [(h0, .inr (7, [.int i_thrown, .int i_down, .int i_lasts, v_buffer, .int i_size, .int (nI nd), .ref hgo, v_first, v_many, .ref hln, v_authors, v_sums, v_row, v_made, .int i_madeSize, v_base, .int i_baseSize, v_text, .int i_textSize, .int i_textSteps, v_other, .int i_otherSize, v_piece, .int i_pieceSize, .int i_at, .int i_end, .int i_value])), (hgo, .inl (cZ, 8, .inl (fg))), (hln, .inl (cL, 512, .inl (fl)))] [(cZ, .boolean), (cL, .short)])) (vp_Si (fun r => r = (-1))) 0 0 (fun _ => False) := by
  refine Met.ofW (cc := prog_9_method_9_code) (maxL := 3) (ret := (some .int)) (by decide) rfl ?_
  intro p e s m args below meth c s₁ B hml hv
  obtain ⟨rfl, hP, hK, hN⟩ := hv
  have hx := B.exec
  have hb := B.bytes
  have hr := B.returns
  have hts := atoms_spec (ws := k_O_kept) B.pre
  have hw0 : ∀ w ∈ w0, w.before _ s = true := fun w h => hts w (List.mem_cons_of_mem _ h)
  have hown : s.vm.findClass R_O = some m.cls := findClass_of_methodNamed B.named
  have hlocks := B.notSynchronized
  have hP : va_P (dC, dI) vwCl [(h0, .inr (7, [.int i_thrown, .int i_down, .int i_lasts, v_buffer, .int i_size, .int (nI nd), .ref hgo, v_first, v_many, .ref hln, v_authors, v_sums, v_row, v_made, .int i_madeSize, v_base, .int i_baseSize, v_text, .int i_textSize, .int i_textSteps, v_other, .int i_otherSize, v_piece, .int i_pieceSize, .int i_at, .int i_end, .int i_value])), (hgo, .inl (cZ, 8, .inl (fg))), (hln, .inl (cL, 512, .inl (fl)))] s.heap := hP
  have hl := lv_entry ([.ref h0, .int (nI d9), .int (nI r9)]) (n := 3) (Nat.le_of_ble_eq_true rfl)
  rw [lg_entry_eq]
  generalize (lg_sl ([.ref h0, .int (nI d9), .int (nI r9)]) ++ List.replicate (3 - (lg_sl ([.ref h0, .int (nI d9), .int (nI r9)])).length) Slot.unset).toArray = ls at hl ⊢
  have hl : lv_has ls 3 [(0, .ref h0), (1, .int (nI d9)), (2, .int (nI r9))] := hl
  refine lv_aload_n hx hb d_O_kept_0 rfl (lv_at hl 0 rfl) ?_
  refine lv_iload_n hx hb d_O_kept_1 rfl (lv_at hl 1 rfl) ?_
  have hPc := hP.sub (ws' := [(h0, .inr (7, [.int i_thrown, .int i_down, .int i_lasts, v_buffer, .int i_size, .int (nI nd), .ref hgo, v_first, v_many, .ref hln, v_authors, v_sums, v_row, v_made, .int i_madeSize, v_base, .int i_baseSize, v_text, .int i_textSize, .int i_textSteps, v_other, .int i_otherSize, v_piece, .int i_pieceSize, .int i_at, .int i_end, .int i_value])), (hgo, .inl (cZ, 8, .inl ((fg))))]) [0, 1] rfl
  have hKc := hK.sub (tys' := [(cZ, .boolean)]) [0] rfl
  refine ps_i (va_runV (As := [.int (nI d9)]) (rest := []) ⟨hx, hb, hml, hown, hw0⟩ (o_isDoc_T l dC dI h0 i_thrown i_down i_lasts v_buffer i_size v_first v_many (.ref hln) v_authors v_sums v_row v_made i_madeSize v_base i_baseSize v_text i_textSize i_textSteps v_other i_otherSize v_piece i_pieceSize i_at i_end i_value nd hgo cZ (fg) d9 (by first | assumption | decide | omega) (by first | assumption | decide | omega) (by first | assumption | decide | omega)) (cwV 1 hw0 (gd_V 252 253 254 161 255 rfl rfl rfl rfl rfl) rfl rfl rfl (by decide +kernel) ⟨by decide +kernel, by decide +kernel⟩) (prV_R hPc hKc hN (va_recv hKc hPc (ci := 7) (q0 := 0) rfl rfl)) rfl rfl hl.1 rfl (lv_room (Nat.le_of_ble_eq_true rfl)) d_O_kept_2 ⟨by decide +kernel, by decide +kernel⟩) (fun r_1 hr_1 => ?_)
  obtain rfl : r_1 = 1 := hr_1
  refine lv_if_eq (tgt := 42) hx hb d_O_kept_5 (by decide) (fun h9 => absurd h9 (by decide +kernel)) (fun _ => ?_)
  refine lv_iload_n hx hb d_O_kept_8 rfl (lv_at hl 2 rfl) ?_
  refine lv_if_lt (tgt := 42) hx hb d_O_kept_9 (by decide) (fun c_2 => absurd c_2 (nI_pos (by omega))) (fun c_2 => ?_)
  refine lv_iload_n hx hb d_O_kept_12 rfl (lv_at hl 2 rfl) ?_
  refine lv_bipush (v := 64) hx hb d_O_kept_13 (by decide +kernel) ?_
  refine lv_icmp_ge (tgt := 42) hx hb d_O_kept_15 (by decide) (fun c_3 => absurd c_3 (nI_ge hr9 (by decide))) (fun c_3 => ?_)
  refine lv_aload_n hx hb d_O_kept_18 rfl (lv_at hl 0 rfl) ?_
  refine va_get (D := (dC, dI)) (ci := 7) (v := .ref hln) (C := R_O) (T := F_O) (N := 27) hx hb hw0 in_O hown hK hP 0 rfl rfl 9 (by decide) (hw0 (.fieldLink R_O 28 "TextKeeperModel" "lengths" "[S") (List.mem_of_getElem? (i := 207) rfl)) (fun _ h9 => h9) rfl d_O_kept_19 ?_
  refine lv_bipush (v := 64) hx hb d_O_kept_22 (by decide +kernel) ?_
  refine lv_iload_n hx hb d_O_kept_24 rfl (lv_at hl 1 rfl) ?_
  refine lv_imul hx hb d_O_kept_25 ?_
  refine lv_topi (fun x_4 ex_4 => ?_)
  obtain rfl : x_4 = (nI (64 * d9)) := by rw [ex_4]; exact (show nI 64 * nI d9 = nI (64 * d9) from pk_mul _ _)
  clear ex_4
  refine lv_iload_n hx hb d_O_kept_26 rfl (lv_at hl 2 rfl) ?_
  refine lv_iadd hx hb d_O_kept_27 ?_
  refine lv_topi (fun x_5 ex_5 => ?_)
  obtain rfl : x_5 = (nI (64 * d9 + r9)) := by rw [ex_5]; exact nI_add _ _
  clear ex_5
  refine va_sald hx hb hK hP 2 1 rfl rfl (vp_in_nI (by omega) (by decide)) d_O_kept_28 ?_
  refine lv_topi (fun x_6 ex_6 => ?_)
  refine lv_iconst (v := (-1)) hx hb d_O_kept_29 (by decide) ?_
  refine lv_icmp_eq (tgt := 42) hx hb d_O_kept_30 (by decide) (fun c_7 => ?_) (fun c_7 => absurd (by rw [ex_6, nI_clamp (by omega), hfl _ (by omega), hln9]; rfl) c_7)
  refine lv_iconst (v := (-1)) hx hb d_O_kept_42 (by decide) ?_
  exact W.iret (v := (-1)) hx hb hr (fun t ht hW => ⟨(-1), rfl, rfl, ht⟩) (fun q h => by cases h) d_O_kept_43
set_option maxHeartbeats 4000000 in
set_option maxRecDepth 100000 in
theorem o_blocks (l : Launch) (dC : Nat → ClassId) (dI : Nat → Nat → Nat) (n : Nat) (hn : n < 2 ^ 20) : Met l y_O_blocks k_O_blocks ({ frames := 0, cells := 0, slots := 0, locals := 0 } : Room) (va_Pc [.int (nI n)] (pc_R (dC, dI) [] [])) (vp_Si (fun r => r = nI (blk n))) 0 0 (fun _ => False) := by
  refine Met.ofW (cc := prog_9_method_11_code) (maxL := 1) (ret := (some .int)) (by decide) rfl ?_
  intro p e s m args below meth c s₁ B hml hv
  obtain ⟨rfl, hP, hK, hN⟩ := hv
  have hx := B.exec
  have hb := B.bytes
  have hr := B.returns
  have hts := atoms_spec (ws := k_O_blocks) B.pre
  have hw0 : ∀ w ∈ w0, w.before _ s = true := fun w h => hts w (List.mem_cons_of_mem _ h)
  have hown : s.vm.findClass R_O = some m.cls := findClass_of_methodNamed B.named
  have hlocks := B.notSynchronized
  have hP : va_P (dC, dI) vwCl [] s.heap := hP
  have hl := lv_entry ([.int (nI n)]) (n := 1) (Nat.le_of_ble_eq_true rfl)
  rw [lg_entry_eq]
  generalize (lg_sl ([.int (nI n)]) ++ List.replicate (1 - (lg_sl ([.int (nI n)])).length) Slot.unset).toArray = ls at hl ⊢
  have hl : lv_has ls 1 [(0, .int (nI n))] := hl
  refine lv_iload_n hx hb d_O_blocks_0 rfl (lv_at hl 0 rfl) ?_
  refine lv_bipush (v := 31) hx hb d_O_blocks_1 (by decide +kernel) ?_
  refine lv_iadd hx hb d_O_blocks_3 ?_
  refine lv_topi (fun x_1 ex_1 => ?_)
  obtain rfl : x_1 = (nI (n + 31)) := by rw [ex_1]; exact nI_add n 31
  clear ex_1
  refine lv_bipush (v := 32) hx hb d_O_blocks_4 (by decide +kernel) ?_
  refine lv_idiv hx hb d_O_blocks_6 (by decide +kernel) ?_
  refine lv_topi (fun x_2 ex_2 => ?_)
  obtain rfl : x_2 = (nI (blk n)) := by rw [ex_2]; exact (show nI (n + 31) / nI 32 = nI ((n + 31) / 32) from pk_div (by omega) (by decide) (by decide))
  clear ex_2
  exact W.iret (v := (nI (blk n))) hx hb hr (fun t ht hW => ⟨(nI (blk n)), rfl, rfl, ht⟩) (fun q h => by cases h) d_O_blocks_7
set_option maxHeartbeats 4000000 in
set_option maxRecDepth 100000 in
theorem lo_free {p : Program} {l : Launch} {e : Env} {s : State} {m : MethodId} {args : Array Value} {below : List Frame} {meth : Method} {c : Code} {dC : Nat → ClassId} {dI : Nat → Nat → Nat} {Q : State → Prop} {H : Heap} {locs : List Loc} (h0 : Nat) (i_thrown : Int32) (i_down : Int32) (i_lasts : Int32) (v_buffer : Value) (i_size : Int32) (i_documents : Int32) (v_gone : Value) (v_first : Value) (v_many : Value) (v_authors : Value) (v_sums : Value) (v_row : Value) (v_made : Value) (i_madeSize : Int32) (v_base : Value) (i_baseSize : Int32) (v_text : Value) (i_textSize : Int32) (i_textSteps : Int32) (v_other : Value) (i_otherSize : Int32) (v_piece : Value) (i_pieceSize : Int32) (i_at : Int32) (i_end : Int32) (i_value : Int32) (hln : Nat) (cL : ClassId) (fl : Nat → Int32) (ln : Nat → Option Nat) (hfl : ∀ j, j < 512 → fl j = vI (ln j)) (hbd : ∀ j v, j < 512 → ln j = some v → v ≤ 16384)
    (hx : p.tables.exec = Jvm.exec) (hb : c.code = prog_9_method_12_code) (hml : c.maxLocals = 3) (hown : s.vm.findClass R_O = some m.cls) (hw0 : ∀ w ∈ w0, w.before args s = true) (hN : nw_ok s) (hK : va_K (dC, dI) vwCl [(cL, .short)] s) (hP : va_P (dC, dI) vwCl [(h0, .inr (7, [.int i_thrown, .int i_down, .int i_lasts, v_buffer, .int i_size, .int i_documents, v_gone, v_first, v_many, .ref hln, v_authors, v_sums, v_row, v_made, .int i_madeSize, v_base, .int i_baseSize, v_text, .int i_textSize, .int i_textSteps, v_other, .int i_otherSize, v_piece, .int i_pieceSize, .int i_at, .int i_end, .int i_value])), (hln, .inl (cL, 512, .inl (fl)))] H)
    (kk : ∀ ls : Array Slot, lv_has ls 3 [(2, .int (nI 512)), (1, .int (512 - nI (frb ln 512))), (0, .ref h0)] → W p l e ({ frames := 1, cells := 0, slots := 0, locals := 20 } : Room) s m args below meth c H locs 0 0 Q (F0 m 44 ls [])) :
    ∀ (n j : Nat), j ≤ 512 → 512 < j + n → ∀ ls : Array Slot, lv_has ls 3 [(2, .int (nI j)), (1, .int (512 - nI (frb ln j))), (0, .ref h0)] → W p l e ({ frames := 1, cells := 0, slots := 0, locals := 20 } : Room) s m args below meth c H locs 0 0 Q (F0 m 6 ls []) := by
  intro n
  induction n with
  | zero => intro j  h1 h2; exact absurd h2 (by omega)
  | succ n ih =>
    intro j  hj hn  ls hl
    refine lv_iload_n hx hb d_O_free_6 rfl (lv_at hl 0 rfl) ?_
    refine lv_sipush (v := 512) hx hb d_O_free_7 (by decide +kernel) ?_
    refine lv_icmp_ge (tgt := 44) hx hb d_O_free_10 (by decide) (fun c_1 => ?_) (fun c_1 => ?_)
    · obtain rfl : j = 512 := x_geN (by omega) hj c_1
      exact kk ls (lv_sub hl [0, 1, 2] rfl)
    · have hlt : j < 512 := x_ltN (by omega) hj c_1
      refine lv_iload_n hx hb d_O_free_13 rfl (lv_at hl 1 rfl) ?_
      refine lv_aload_n hx hb d_O_free_14 rfl (lv_at hl 2 rfl) ?_
      refine va_get (D := (dC, dI)) (ci := 7) (v := .ref hln) (C := R_O) (T := F_O) (N := 27) hx hb hw0 in_O hown hK hP 0 rfl rfl 9 (by decide) (hw0 (.fieldLink R_O 28 "TextKeeperModel" "lengths" "[S") (List.mem_of_getElem? (i := 207) rfl)) (fun _ h9 => h9) rfl d_O_free_15 ?_
      refine lv_iload_n hx hb d_O_free_18 rfl (lv_at hl 0 rfl) ?_
      refine va_sald hx hb hK hP 1 0 rfl rfl (vp_in_nI (by omega) (by decide)) d_O_free_19 ?_
      refine lv_topi (fun x_2 ex_2 => ?_)
      refine lv_if_le (tgt := 35) hx hb d_O_free_20 (by decide) (fun c_3 => ?_) (fun c_3 => ?_)
      · refine lv_iconst (v := 0) hx hb d_O_free_35 (by decide) ?_
        refine lv_isub hx hb d_O_free_36 ?_
        refine lv_topi (fun x_4 ex_4 => ?_)
        obtain rfl : x_4 = (512 - nI (frb ln (j + 1))) := by rw [ex_4]; exact fr_0 (by omega) (hfl j (by omega)) (fun v => hbd j v (by omega)) ex_2 c_3
        clear ex_4
        refine lv_istore_n (lv' := [(1, .int (512 - nI (frb ln (j + 1)))), (2, .int (nI j)), (0, .ref h0)]) hx hb d_O_free_37 rfl hl (by decide) rfl (fun ls hl => ?_)
        refine lv_iinc (v := nI (j + 1)) (lv' := [(2, .int (nI (j + 1))), (1, .int (512 - nI (frb ln (j + 1)))), (0, .ref h0)]) hx hb d_O_free_38 hl (k := 1) rfl (nI_1 j) (by decide) rfl (fun ls hl => ?_)
        refine lv_goto (tgt := 6) hx hb d_O_free_41 (by decide) ?_
        exact ih (j + 1) hlt (by omega) ls (lv_sub hl [0, 1, 2] rfl)
      · refine lv_aload_n hx hb d_O_free_23 rfl (lv_at hl 2 rfl) ?_
        refine va_get (D := (dC, dI)) (ci := 7) (v := .ref hln) (C := R_O) (T := F_O) (N := 27) hx hb hw0 in_O hown hK hP 0 rfl rfl 9 (by decide) (hw0 (.fieldLink R_O 28 "TextKeeperModel" "lengths" "[S") (List.mem_of_getElem? (i := 207) rfl)) (fun _ h9 => h9) rfl d_O_free_24 ?_
        refine lv_iload_n hx hb d_O_free_27 rfl (lv_at hl 0 rfl) ?_
        refine va_sald hx hb hK hP 1 0 rfl rfl (vp_in_nI (by omega) (by decide)) d_O_free_28 ?_
        refine lv_topi (fun x_5 ex_5 => ?_)
        obtain ⟨v9, hv9, hv8⟩ := fr_some (by omega) (hfl j (by omega)) ex_2 c_3
        obtain rfl : x_5 = nI v9 := by rw [ex_5, nI_clamp (by omega), hfl j (by omega), hv9]; rfl
        have hb8 := hbd j v9 (by omega) hv9
        have hPc := hP.sub (ws' := []) [] rfl
        have hKc := hK.sub (tys' := []) [] rfl
        refine ps_i (va_runS (As := [.int (nI v9)]) (rest := [.int (512 - nI (frb ln j))]) ⟨hx, hb, hml, hown, hw0⟩ (o_blocks l dC dI v9 (by first | assumption | decide | omega)) (va_cwS 1 hw0 (gd_S 258 259 161 260 rfl rfl rfl rfl) rfl rfl rfl (by decide +kernel) ⟨by decide +kernel, by decide +kernel⟩) (prS_R hPc hKc hN) rfl rfl hl.1 rfl (lv_room (Nat.le_of_ble_eq_true rfl)) d_O_free_29 ⟨by decide +kernel, by decide +kernel⟩) (fun r_6 hr_6 => ?_)
        obtain rfl : r_6 = (nI (blk v9)) := hr_6
        refine lv_goto (tgt := 36) hx hb d_O_free_32 (by decide) ?_
        refine lv_isub hx hb d_O_free_36 ?_
        refine lv_topi (fun x_7 ex_7 => ?_)
        obtain rfl : x_7 = (512 - nI (frb ln (j + 1))) := by rw [ex_7]; exact fr_1 hv9
        clear ex_7
        refine lv_istore_n (lv' := [(1, .int (512 - nI (frb ln (j + 1)))), (2, .int (nI j)), (0, .ref h0)]) hx hb d_O_free_37 rfl hl (by decide) rfl (fun ls hl => ?_)
        refine lv_iinc (v := nI (j + 1)) (lv' := [(2, .int (nI (j + 1))), (1, .int (512 - nI (frb ln (j + 1)))), (0, .ref h0)]) hx hb d_O_free_38 hl (k := 1) rfl (nI_1 j) (by decide) rfl (fun ls hl => ?_)
        refine lv_goto (tgt := 6) hx hb d_O_free_41 (by decide) ?_
        exact ih (j + 1) hlt (by omega) ls (lv_sub hl [0, 1, 2] rfl)
set_option maxHeartbeats 4000000 in
set_option maxRecDepth 100000 in
theorem o_free (l : Launch) (dC : Nat → ClassId) (dI : Nat → Nat → Nat) (h0 : Nat) (i_thrown : Int32) (i_down : Int32) (i_lasts : Int32) (v_buffer : Value) (i_size : Int32) (i_documents : Int32) (v_gone : Value) (v_first : Value) (v_many : Value) (v_authors : Value) (v_sums : Value) (v_row : Value) (v_made : Value) (i_madeSize : Int32) (v_base : Value) (i_baseSize : Int32) (v_text : Value) (i_textSize : Int32) (i_textSteps : Int32) (v_other : Value) (i_otherSize : Int32) (v_piece : Value) (i_pieceSize : Int32) (i_at : Int32) (i_end : Int32) (i_value : Int32) (hln : Nat) (cL : ClassId) (fl : Nat → Int32) (ln : Nat → Option Nat) (hfl : ∀ j, j < 512 → fl j = vI (ln j)) (hbd : ∀ j v, j < 512 → ln j = some v → v ≤ 16384) : Met l y_O_free k_O_free ({ frames := 1, cells := 0, slots := 0, locals := 20 } : Room) (va_Pc [.ref h0] (pc_R (dC, dI) [(h0, .inr (7, [.int i_thrown, .int i_down, .int i_lasts, v_buffer, .int i_size, .int i_documents, v_gone, v_first, v_many, .ref hln, v_authors, v_sums, v_row, v_made, .int i_madeSize, v_base, .int i_baseSize, v_text, .int i_textSize, .int i_textSteps, v_other, .int i_otherSize, v_piece, .int i_pieceSize, .int i_at, .int i_end, .int i_value])), (hln, .inl (cL, 512, .inl (fl)))] [(cL, .short)])) (vp_Si (fun r => r = 512 - nI (frb ln 512))) 0 0 (fun _ => False) := by
  refine Met.ofW (cc := prog_9_method_12_code) (maxL := 3) (ret := (some .int)) (by decide) rfl ?_
  intro p e s m args below meth c s₁ B hml hv
  obtain ⟨rfl, hP, hK, hN⟩ := hv
  have hx := B.exec
  have hb := B.bytes
  have hr := B.returns
  have hts := atoms_spec (ws := k_O_free) B.pre
  have hw0 : ∀ w ∈ w0, w.before _ s = true := fun w h => hts w (List.mem_cons_of_mem _ h)
  have hown : s.vm.findClass R_O = some m.cls := findClass_of_methodNamed B.named
  have hlocks := B.notSynchronized
  have hP : va_P (dC, dI) vwCl [(h0, .inr (7, [.int i_thrown, .int i_down, .int i_lasts, v_buffer, .int i_size, .int i_documents, v_gone, v_first, v_many, .ref hln, v_authors, v_sums, v_row, v_made, .int i_madeSize, v_base, .int i_baseSize, v_text, .int i_textSize, .int i_textSteps, v_other, .int i_otherSize, v_piece, .int i_pieceSize, .int i_at, .int i_end, .int i_value])), (hln, .inl (cL, 512, .inl (fl)))] s.heap := hP
  have hl := lv_entry ([.ref h0]) (n := 3) (Nat.le_of_ble_eq_true rfl)
  rw [lg_entry_eq]
  generalize (lg_sl ([.ref h0]) ++ List.replicate (3 - (lg_sl ([.ref h0])).length) Slot.unset).toArray = ls at hl ⊢
  have hl : lv_has ls 3 [(0, .ref h0)] := hl
  refine lv_sipush (v := 512) hx hb d_O_free_0 (by decide +kernel) ?_
  refine lv_istore_n (lv' := [(1, .int 512), (0, .ref h0)]) hx hb d_O_free_3 rfl hl (by decide) rfl (fun ls hl => ?_)
  refine lv_iconst (v := 0) hx hb d_O_free_4 (by decide) ?_
  refine lv_istore_n (lv' := [(2, .int 0), (1, .int 512), (0, .ref h0)]) hx hb d_O_free_5 rfl hl (by decide) rfl (fun ls hl => ?_)
  refine lo_free h0 i_thrown i_down i_lasts v_buffer i_size i_documents v_gone v_first v_many v_authors v_sums v_row v_made i_madeSize v_base i_baseSize v_text i_textSize i_textSteps v_other i_otherSize v_piece i_pieceSize i_at i_end i_value hln cL fl ln hfl hbd hx hb hml hown hw0 hN hK hP (fun ls hl => ?_) 513 0 (by omega) (by omega) ls (by rw [fr_z]; exact (lv_sub hl [0, 1, 2] rfl))
  refine lv_iload_n hx hb d_O_free_44 rfl (lv_at hl 1 rfl) ?_
  exact W.iret (v := (512 - nI (frb ln 512))) hx hb hr (fun t ht hW => ⟨(512 - nI (frb ln 512)), rfl, rfl, ht⟩) (fun q h => by cases h) d_O_free_45
set_option maxHeartbeats 4000000 in
set_option maxRecDepth 100000 in
theorem lo_und {p : Program} {l : Launch} {e : Env} {s : State} {m : MethodId} {args : Array Value} {below : List Frame} {meth : Method} {c : Code} {dC : Nat → ClassId} {dI : Nat → Nat → Nat} {Q : State → Prop} {H : Heap} {locs : List Loc} (r9 : Nat) (of : Nat) (hr9 : r9 < 64) (hof : of < 64)
    (hx : p.tables.exec = Jvm.exec) (hb : c.code = prog_9_method_14_code) (hml : c.maxLocals = 3) (hown : s.vm.findClass R_O = some m.cls) (hw0 : ∀ w ∈ w0, w.before args s = true) (hN : nw_ok s) (hK : va_K (dC, dI) vwCl [] s) (hP : va_P (dC, dI) vwCl [] H)
    (kk : ∀ ls : Array Slot, lv_has ls 3 [(2, .int (nI (wk of r9))), (0, .int (nI r9)), (1, .int (nI of))] → W p l e ({ frames := 0, cells := 0, slots := 0, locals := 0 } : Room) s m args below meth c H locs 0 0 Q (F0 m 16 ls [])) :
    ∀ (n j : Nat) (k9 : Nat), j ≤ 64 → 64 < j + n → (k9 < 64) → (wk k9 r9 = wk of r9) → (k9 + j ≤ 64) → ∀ ls : Array Slot, lv_has ls 3 [(2, .int (nI k9)), (0, .int (nI r9)), (1, .int (nI of))] → W p l e ({ frames := 0, cells := 0, slots := 0, locals := 0 } : Room) s m args below meth c H locs 0 0 Q (F0 m 2 ls []) := by
  intro n
  induction n with
  | zero => intro j k9 h1 h2; exact absurd h2 (by omega)
  | succ n ih =>
    intro j k9 hj hn hf0 hf1 hf2 ls hl
    refine lv_iload_n hx hb d_O_isUnder_2 rfl (lv_at hl 0 rfl) ?_
    refine lv_iload_n hx hb d_O_isUnder_3 rfl (lv_at hl 1 rfl) ?_
    refine lv_icmp_le (tgt := 16) hx hb d_O_isUnder_4 (by decide) (fun c_1 => ?_) (fun c_1 => ?_)
    · have hle9 : k9 ≤ r9 := (nI_leI (by omega) (by omega)).mp c_1
      have hw9 : k9 = wk of r9 := by rw [← hf1]; exact (wk_le hle9).symm
      exact kk ls (by rw [← hw9]; exact (lv_sub hl [0, 1, 2] rfl))
    · have hlt : r9 < k9 := (by rcases Nat.lt_or_ge r9 k9 with z | z; exact z; exact absurd (nI_le z (by omega)) c_1)
      refine lv_iload_n hx hb d_O_isUnder_7 rfl (lv_at hl 0 rfl) ?_
      refine lv_iload_n hx hb d_O_isUnder_8 rfl (lv_at hl 0 rfl) ?_
      refine lv_iconst (v := 1) hx hb d_O_isUnder_9 (by decide) ?_
      refine lv_isub hx hb d_O_isUnder_10 ?_
      refine lv_topi (fun x_2 ex_2 => ?_)
      refine lv_iand hx hb d_O_isUnder_11 ?_
      refine lv_topi (fun x_3 ex_3 => ?_)
      obtain rfl : x_3 = (nI (bs k9)) := by rw [ex_3, ex_2]; exact (bs_nI k9 (by omega)).1
      clear ex_3
      refine lv_istore_n (lv' := [(2, .int (nI (bs k9))), (0, .int (nI r9)), (1, .int (nI of))]) hx hb d_O_isUnder_12 rfl hl (by decide) rfl (fun ls hl => ?_)
      refine lv_goto (tgt := 2) hx hb d_O_isUnder_13 (by decide) ?_
      exact ih (j + 1) (bs k9) (by omega) (by omega) (by have := (bs_nI k9 (by omega)).2; omega) (by rw [← hf1]; exact (wkU hlt (by omega)).symm) (by have := (bs_nI k9 (by omega)).2; omega) ls (lv_sub hl [0, 1, 2] rfl)
set_option maxHeartbeats 4000000 in
set_option maxRecDepth 100000 in
theorem o_isUnder (l : Launch) (dC : Nat → ClassId) (dI : Nat → Nat → Nat) (r9 : Nat) (of : Nat) (hr9 : r9 < 64) (hof : of < 64) : Met l y_O_isUnder k_O_isUnder ({ frames := 0, cells := 0, slots := 0, locals := 0 } : Room) (va_Pc [.int (nI r9), .int (nI of)] (pc_R (dC, dI) [] [])) (vp_Si (fun r => r = bI (decide (wk of r9 = r9)))) 0 0 (fun _ => False) := by
  refine Met.ofW (cc := prog_9_method_14_code) (maxL := 3) (ret := (some .boolean)) (by decide) rfl ?_
  intro p e s m args below meth c s₁ B hml hv
  obtain ⟨rfl, hP, hK, hN⟩ := hv
  have hx := B.exec
  have hb := B.bytes
  have hr := B.returns
  have hts := atoms_spec (ws := k_O_isUnder) B.pre
  have hw0 : ∀ w ∈ w0, w.before _ s = true := fun w h => hts w (List.mem_cons_of_mem _ h)
  have hown : s.vm.findClass R_O = some m.cls := findClass_of_methodNamed B.named
  have hlocks := B.notSynchronized
  have hP : va_P (dC, dI) vwCl [] s.heap := hP
  have hl := lv_entry ([.int (nI r9), .int (nI of)]) (n := 3) (Nat.le_of_ble_eq_true rfl)
  rw [lg_entry_eq]
  generalize (lg_sl ([.int (nI r9), .int (nI of)]) ++ List.replicate (3 - (lg_sl ([.int (nI r9), .int (nI of)])).length) Slot.unset).toArray = ls at hl ⊢
  have hl : lv_has ls 3 [(0, .int (nI r9)), (1, .int (nI of))] := hl
  have hwl := wk_lt of r9 hof
  refine lv_iload_n hx hb d_O_isUnder_0 rfl (lv_at hl 1 rfl) ?_
  refine lv_istore_n (lv' := [(2, .int (nI of)), (0, .int (nI r9)), (1, .int (nI of))]) hx hb d_O_isUnder_1 rfl hl (by decide) rfl (fun ls hl => ?_)
  refine lo_und r9 of hr9 hof hx hb hml hown hw0 hN hK hP (fun ls hl => ?_) 65 0 of (by omega) (by omega) hof rfl (by omega) ls (lv_sub hl [0, 1, 2] rfl)
  refine lv_iload_n hx hb d_O_isUnder_16 rfl (lv_at hl 0 rfl) ?_
  refine lv_iload_n hx hb d_O_isUnder_17 rfl (lv_at hl 1 rfl) ?_
  refine lv_icmp_ne (tgt := 25) hx hb d_O_isUnder_18 (by decide) (fun c_1 => ?_) (fun c_1 => ?_)
  · refine lv_iconst (v := 0) hx hb d_O_isUnder_25 (by decide) ?_
    exact W.zret (v := 0) (ty := .boolean) hx hb hr rfl (fun t ht hW => ⟨0, rfl, (by rw [bI, decide_eq_false (fun q => c_1 (by rw [q]))]; rfl), ht⟩) (fun q h => by cases h) d_O_isUnder_26
  · refine lv_iconst (v := 1) hx hb d_O_isUnder_21 (by decide) ?_
    refine lv_goto (tgt := 26) hx hb d_O_isUnder_22 (by decide) ?_
    exact W.zret (v := 1) (ty := .boolean) hx hb hr rfl (fun t ht hW => ⟨1, rfl, (by rw [bI, decide_eq_true ((nI_eq (by omega) (by omega)).mp c_1)]; rfl), ht⟩) (fun q h => by cases h) d_O_isUnder_26
