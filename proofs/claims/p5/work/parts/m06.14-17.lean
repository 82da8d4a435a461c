section
set_option maxHeartbeats 4000000 in
set_option maxRecDepth 100000 in
theorem o_runs_U (l : Launch) (dC : Nat → ClassId) (dI : Nat → Nat → Nat) (sz : Nat) (h0 : Nat) (i_thrown : Int32) (i_lasts : Int32) (v_buffer : Value) (i_size : Int32) (i_documents : Int32) (v_gone : Value) (v_first : Value) (v_many : Value) (v_lengths : Value) (v_authors : Value) (v_sums : Value) (v_row : Value) (v_made : Value) (i_madeSize : Int32) (v_base : Value) (i_baseSize : Int32) (v_text : Value) (i_textSize : Int32) (i_textSteps : Int32) (v_other : Value) (i_otherSize : Int32) (v_piece : Value) (i_pieceSize : Int32) (i_at : Int32) (i_end : Int32) (i_value : Int32) (a1 : Int32)  : Met l y_O_runs k_O_runs ({ frames := 0, cells := 0, slots := 0, locals := 0 } : Room) (va_Pc [.ref h0, .int a1] (pc_E (dC, dI) [(h0, .inr (7, [.int i_thrown, .int 0, .int i_lasts, v_buffer, .int i_size, .int i_documents, v_gone, v_first, v_many, v_lengths, v_authors, v_sums, v_row, v_made, .int i_madeSize, v_base, .int i_baseSize, v_text, .int i_textSize, .int i_textSteps, v_other, .int i_otherSize, v_piece, .int i_pieceSize, .int i_at, .int i_end, .int i_value]))] [] sz)) (va_Qi (fun (r : Int32) (_ : Unit) => r = 1) (fun (_ : Unit) t => at_E (dC, dI) (va_A [(h0, .inr (7, [.int i_thrown, .int 0, .int i_lasts, v_buffer, .int i_size, .int i_documents, v_gone, v_first, v_many, v_lengths, v_authors, v_sums, v_row, v_made, .int i_madeSize, v_base, .int i_baseSize, v_text, .int i_textSize, .int i_textSteps, v_other, .int i_otherSize, v_piece, .int i_pieceSize, .int i_at, .int i_end, .int i_value]))] sz) [(h0, .inr (7, [.int 0, .int 0, .int i_lasts, v_buffer, .int i_size, .int i_documents, v_gone, v_first, v_many, v_lengths, v_authors, v_sums, v_row, v_made, .int i_madeSize, v_base, .int i_baseSize, v_text, .int i_textSize, .int i_textSteps, v_other, .int i_otherSize, v_piece, .int i_pieceSize, .int i_at, .int i_end, .int i_value]))] [] t) (va_A [(h0, .inr (7, [.int i_thrown, .int 0, .int i_lasts, v_buffer, .int i_size, .int i_documents, v_gone, v_first, v_many, v_lengths, v_authors, v_sums, v_row, v_made, .int i_madeSize, v_base, .int i_baseSize, v_text, .int i_textSize, .int i_textSteps, v_other, .int i_otherSize, v_piece, .int i_pieceSize, .int i_at, .int i_end, .int i_value]))] sz)) 0 0 (va_A [(h0, .inr (7, [.int i_thrown, .int 0, .int i_lasts, v_buffer, .int i_size, .int i_documents, v_gone, v_first, v_many, v_lengths, v_authors, v_sums, v_row, v_made, .int i_madeSize, v_base, .int i_baseSize, v_text, .int i_textSize, .int i_textSteps, v_other, .int i_otherSize, v_piece, .int i_pieceSize, .int i_at, .int i_end, .int i_value]))] sz) := by
  refine Met.ofW (cc := prog_9_method_3_code) (maxL := 2) (ret := (some .boolean)) (by decide) rfl ?_
  intro p e s m args below meth c s₁ B hml hv
  obtain ⟨rfl, hsz, hP, hK, hD0, hN⟩ := hv
  have hx := B.exec
  have hb := B.bytes
  have hr := B.returns
  have hts := atoms_spec (ws := k_O_runs) B.pre
  have hw0 : ∀ w ∈ w0, w.before _ s = true := fun w h => hts w (List.mem_cons_of_mem _ h)
  have hown : s.vm.findClass R_O = some m.cls := findClass_of_methodNamed B.named
  have hlocks := B.notSynchronized
  subst hsz
  have hD := hD0.self (sz := s.heap.size)
  generalize hAe : va_A [(h0, .inr (7, [.int i_thrown, .int 0, .int i_lasts, v_buffer, .int i_size, .int i_documents, v_gone, v_first, v_many, v_lengths, v_authors, v_sums, v_row, v_made, .int i_madeSize, v_base, .int i_baseSize, v_text, .int i_textSize, .int i_textSteps, v_other, .int i_otherSize, v_piece, .int i_pieceSize, .int i_at, .int i_end, .int i_value]))] s.heap.size = A at hD ⊢
  have hA : ∀ q : Nat, s.heap.size ≤ q → A q := fun q h => by rw [← hAe]; exact Or.inr h
  have hS : va_S A s.heap s.heap [] := va_S.rf
  have hP : va_P (dC, dI) vwCl [(h0, .inr (7, [.int i_thrown, .int 0, .int i_lasts, v_buffer, .int i_size, .int i_documents, v_gone, v_first, v_many, v_lengths, v_authors, v_sums, v_row, v_made, .int i_madeSize, v_base, .int i_baseSize, v_text, .int i_textSize, .int i_textSteps, v_other, .int i_otherSize, v_piece, .int i_pieceSize, .int i_at, .int i_end, .int i_value]))] s.heap := hP
  have hl := lv_entry ([.ref h0, .int a1]) (n := 2) (Nat.le_of_ble_eq_true rfl)
  rw [lg_entry_eq]
  generalize (lg_sl ([.ref h0, .int a1]) ++ List.replicate (2 - (lg_sl ([.ref h0, .int a1])).length) Slot.unset).toArray = ls at hl ⊢
  have hl : lv_has ls 2 [(0, .ref h0), (1, .int a1)] := hl
  refine lv_aload_n hx hb d_O_runs_0 rfl (lv_at hl 0 rfl) ?_
  refine lv_aload_n hx hb d_O_runs_1 rfl (lv_at hl 0 rfl) ?_
  refine va_get (D := (dC, dI)) (ci := 7) (v := .int 0) (C := R_O) (T := F_O) (N := 27) hx hb hw0 in_O hown hK hP 0 rfl rfl 1 (by decide) (hw0 (.fieldLink R_O 65 "TextKeeperModel" "down" "Z") wm_329) (fun _ h9 => h9) rfl d_O_runs_2 ?_
  refine lv_if_eq (tgt := 12) hx hb d_O_runs_5 (by decide) (fun _ => ?_) (fun h9 => absurd h9 (by decide +kernel))
  refine lv_iconst (v := 0) hx hb d_O_runs_12 (by decide) ?_
  refine va_put (D := (dC, dI)) (ci := 7) (v := .int 0) (ty := .int) (C := R_O) (T := F_O) (N := 27) hx hb hw0 in_O ft_O tk_O nk_O hown hK hP hD hS 0 rfl rfl 0 (by decide) (hw0 (.fieldLink R_O 62 "TextKeeperModel" "thrown" "I") wm_330) (fun _ h9 => h9) rfl (by decide +kernel) rfl rfl (Nat.le_of_ble_eq_true rfl) d_O_runs_13 (fun H locs hP hD hS => ?_)
  replace hP : va_P (dC, dI) vwCl [(h0, .inr (7, [.int 0, .int 0, .int i_lasts, v_buffer, .int i_size, .int i_documents, v_gone, v_first, v_many, v_lengths, v_authors, v_sums, v_row, v_made, .int i_madeSize, v_base, .int i_baseSize, v_text, .int i_textSize, .int i_textSteps, v_other, .int i_otherSize, v_piece, .int i_pieceSize, .int i_at, .int i_end, .int i_value]))] H := hP
  replace hD : va_D A [(h0, .inr (7, [.int 0, .int 0, .int i_lasts, v_buffer, .int i_size, .int i_documents, v_gone, v_first, v_many, v_lengths, v_authors, v_sums, v_row, v_made, .int i_madeSize, v_base, .int i_baseSize, v_text, .int i_textSize, .int i_textSteps, v_other, .int i_otherSize, v_piece, .int i_pieceSize, .int i_at, .int i_end, .int i_value]))] := hD
  refine lv_aload_n hx hb d_O_runs_16 rfl (lv_at hl 0 rfl) ?_
  refine va_get (D := (dC, dI)) (ci := 7) (v := .int 0) (C := R_O) (T := F_O) (N := 27) hx hb hw0 in_O hown hK hP 0 rfl rfl 1 (by decide) (hw0 (.fieldLink R_O 65 "TextKeeperModel" "down" "Z") wm_329) (fun _ h9 => h9) rfl d_O_runs_17 ?_
  refine lv_if_ne (tgt := 27) hx hb d_O_runs_20 (by decide) (fun h9 => absurd h9 (by decide +kernel)) (fun _ => ?_)
  refine lv_iconst (v := 1) hx hb d_O_runs_23 (by decide) ?_
  refine lv_goto (tgt := 28) hx hb d_O_runs_24 (by decide) ?_
  have hP9 := hP.sub (ws' := [(h0, .inr (7, [.int 0, .int 0, .int i_lasts, v_buffer, .int i_size, .int i_documents, v_gone, v_first, v_many, v_lengths, v_authors, v_sums, v_row, v_made, .int i_madeSize, v_base, .int i_baseSize, v_text, .int i_textSize, .int i_textSteps, v_other, .int i_otherSize, v_piece, .int i_pieceSize, .int i_at, .int i_end, .int i_value]))]) [0] rfl
  have hD9 := hD.sub (ws' := [(h0, .inr (7, [.int 0, .int 0, .int i_lasts, v_buffer, .int i_size, .int i_documents, v_gone, v_first, v_many, v_lengths, v_authors, v_sums, v_row, v_made, .int i_madeSize, v_base, .int i_baseSize, v_text, .int i_textSize, .int i_textSteps, v_other, .int i_otherSize, v_piece, .int i_pieceSize, .int i_at, .int i_end, .int i_value]))]) [0] (by decide) rfl
  have hK9 := hK.sub (tys' := []) [] rfl
  exact W.zret (v := 1) (ty := .boolean) hx hb hr rfl (fun t ht hW => ⟨⟨1, (), rfl, rfl, by rw [ht]; exact hP9, va_K.moved hW.alike hK9, hD9⟩, hS.F ht⟩) hS.2.2 d_O_runs_28
set_option maxHeartbeats 4000000 in
set_option maxRecDepth 100000 in
theorem o_runs_D (l : Launch) (dC : Nat → ClassId) (dI : Nat → Nat → Nat) (sz : Nat) (h0 : Nat) (i_thrown : Int32) (i_lasts : Int32) (v_buffer : Value) (i_size : Int32) (i_documents : Int32) (v_gone : Value) (v_first : Value) (v_many : Value) (v_lengths : Value) (v_authors : Value) (v_sums : Value) (v_row : Value) (v_made : Value) (i_madeSize : Int32) (v_base : Value) (i_baseSize : Int32) (v_text : Value) (i_textSize : Int32) (i_textSteps : Int32) (v_other : Value) (i_otherSize : Int32) (v_piece : Value) (i_pieceSize : Int32) (i_at : Int32) (i_end : Int32) (i_value : Int32) (a1 : Int32)  : Met l y_O_runs k_O_runs ({ frames := 0, cells := 0, slots := 0, locals := 0 } : Room) (va_Pc [.ref h0, .int a1] (pc_E (dC, dI) [(h0, .inr (7, [.int i_thrown, .int 1, .int i_lasts, v_buffer, .int i_size, .int i_documents, v_gone, v_first, v_many, v_lengths, v_authors, v_sums, v_row, v_made, .int i_madeSize, v_base, .int i_baseSize, v_text, .int i_textSize, .int i_textSteps, v_other, .int i_otherSize, v_piece, .int i_pieceSize, .int i_at, .int i_end, .int i_value]))] [] sz)) (va_Qi (fun (r : Int32) (_ : Unit) => r = 0) (fun (_ : Unit) t => at_E (dC, dI) (va_A [(h0, .inr (7, [.int i_thrown, .int 1, .int i_lasts, v_buffer, .int i_size, .int i_documents, v_gone, v_first, v_many, v_lengths, v_authors, v_sums, v_row, v_made, .int i_madeSize, v_base, .int i_baseSize, v_text, .int i_textSize, .int i_textSteps, v_other, .int i_otherSize, v_piece, .int i_pieceSize, .int i_at, .int i_end, .int i_value]))] sz) [(h0, .inr (7, [.int a1, .int 1, .int i_lasts, v_buffer, .int i_size, .int i_documents, v_gone, v_first, v_many, v_lengths, v_authors, v_sums, v_row, v_made, .int i_madeSize, v_base, .int i_baseSize, v_text, .int i_textSize, .int i_textSteps, v_other, .int i_otherSize, v_piece, .int i_pieceSize, .int i_at, .int i_end, .int i_value]))] [] t) (va_A [(h0, .inr (7, [.int i_thrown, .int 1, .int i_lasts, v_buffer, .int i_size, .int i_documents, v_gone, v_first, v_many, v_lengths, v_authors, v_sums, v_row, v_made, .int i_madeSize, v_base, .int i_baseSize, v_text, .int i_textSize, .int i_textSteps, v_other, .int i_otherSize, v_piece, .int i_pieceSize, .int i_at, .int i_end, .int i_value]))] sz)) 0 0 (va_A [(h0, .inr (7, [.int i_thrown, .int 1, .int i_lasts, v_buffer, .int i_size, .int i_documents, v_gone, v_first, v_many, v_lengths, v_authors, v_sums, v_row, v_made, .int i_madeSize, v_base, .int i_baseSize, v_text, .int i_textSize, .int i_textSteps, v_other, .int i_otherSize, v_piece, .int i_pieceSize, .int i_at, .int i_end, .int i_value]))] sz) := by
  refine Met.ofW (cc := prog_9_method_3_code) (maxL := 2) (ret := (some .boolean)) (by decide) rfl ?_
  intro p e s m args below meth c s₁ B hml hv
  obtain ⟨rfl, hsz, hP, hK, hD0, hN⟩ := hv
  have hx := B.exec
  have hb := B.bytes
  have hr := B.returns
  have hts := atoms_spec (ws := k_O_runs) B.pre
  have hw0 : ∀ w ∈ w0, w.before _ s = true := fun w h => hts w (List.mem_cons_of_mem _ h)
  have hown : s.vm.findClass R_O = some m.cls := findClass_of_methodNamed B.named
  have hlocks := B.notSynchronized
  subst hsz
  have hD := hD0.self (sz := s.heap.size)
  generalize hAe : va_A [(h0, .inr (7, [.int i_thrown, .int 1, .int i_lasts, v_buffer, .int i_size, .int i_documents, v_gone, v_first, v_many, v_lengths, v_authors, v_sums, v_row, v_made, .int i_madeSize, v_base, .int i_baseSize, v_text, .int i_textSize, .int i_textSteps, v_other, .int i_otherSize, v_piece, .int i_pieceSize, .int i_at, .int i_end, .int i_value]))] s.heap.size = A at hD ⊢
  have hA : ∀ q : Nat, s.heap.size ≤ q → A q := fun q h => by rw [← hAe]; exact Or.inr h
  have hS : va_S A s.heap s.heap [] := va_S.rf
  have hP : va_P (dC, dI) vwCl [(h0, .inr (7, [.int i_thrown, .int 1, .int i_lasts, v_buffer, .int i_size, .int i_documents, v_gone, v_first, v_many, v_lengths, v_authors, v_sums, v_row, v_made, .int i_madeSize, v_base, .int i_baseSize, v_text, .int i_textSize, .int i_textSteps, v_other, .int i_otherSize, v_piece, .int i_pieceSize, .int i_at, .int i_end, .int i_value]))] s.heap := hP
  have hl := lv_entry ([.ref h0, .int a1]) (n := 2) (Nat.le_of_ble_eq_true rfl)
  rw [lg_entry_eq]
  generalize (lg_sl ([.ref h0, .int a1]) ++ List.replicate (2 - (lg_sl ([.ref h0, .int a1])).length) Slot.unset).toArray = ls at hl ⊢
  have hl : lv_has ls 2 [(0, .ref h0), (1, .int a1)] := hl
  refine lv_aload_n hx hb d_O_runs_0 rfl (lv_at hl 0 rfl) ?_
  refine lv_aload_n hx hb d_O_runs_1 rfl (lv_at hl 0 rfl) ?_
  refine va_get (D := (dC, dI)) (ci := 7) (v := .int 1) (C := R_O) (T := F_O) (N := 27) hx hb hw0 in_O hown hK hP 0 rfl rfl 1 (by decide) (hw0 (.fieldLink R_O 65 "TextKeeperModel" "down" "Z") wm_329) (fun _ h9 => h9) rfl d_O_runs_2 ?_
  refine lv_if_eq (tgt := 12) hx hb d_O_runs_5 (by decide) (fun h9 => absurd h9 (by decide +kernel)) (fun _ => ?_)
  refine lv_iload_n hx hb d_O_runs_8 rfl (lv_at hl 1 rfl) ?_
  refine lv_goto (tgt := 13) hx hb d_O_runs_9 (by decide) ?_
  refine va_put (D := (dC, dI)) (ci := 7) (v := .int a1) (ty := .int) (C := R_O) (T := F_O) (N := 27) hx hb hw0 in_O ft_O tk_O nk_O hown hK hP hD hS 0 rfl rfl 0 (by decide) (hw0 (.fieldLink R_O 62 "TextKeeperModel" "thrown" "I") wm_330) (fun _ h9 => h9) rfl (by decide +kernel) rfl rfl (Nat.le_of_ble_eq_true rfl) d_O_runs_13 (fun H locs hP hD hS => ?_)
  replace hP : va_P (dC, dI) vwCl [(h0, .inr (7, [.int a1, .int 1, .int i_lasts, v_buffer, .int i_size, .int i_documents, v_gone, v_first, v_many, v_lengths, v_authors, v_sums, v_row, v_made, .int i_madeSize, v_base, .int i_baseSize, v_text, .int i_textSize, .int i_textSteps, v_other, .int i_otherSize, v_piece, .int i_pieceSize, .int i_at, .int i_end, .int i_value]))] H := hP
  replace hD : va_D A [(h0, .inr (7, [.int a1, .int 1, .int i_lasts, v_buffer, .int i_size, .int i_documents, v_gone, v_first, v_many, v_lengths, v_authors, v_sums, v_row, v_made, .int i_madeSize, v_base, .int i_baseSize, v_text, .int i_textSize, .int i_textSteps, v_other, .int i_otherSize, v_piece, .int i_pieceSize, .int i_at, .int i_end, .int i_value]))] := hD
  refine lv_aload_n hx hb d_O_runs_16 rfl (lv_at hl 0 rfl) ?_
  refine va_get (D := (dC, dI)) (ci := 7) (v := .int 1) (C := R_O) (T := F_O) (N := 27) hx hb hw0 in_O hown hK hP 0 rfl rfl 1 (by decide) (hw0 (.fieldLink R_O 65 "TextKeeperModel" "down" "Z") wm_329) (fun _ h9 => h9) rfl d_O_runs_17 ?_
  refine lv_if_ne (tgt := 27) hx hb d_O_runs_20 (by decide) (fun _ => ?_) (fun h9 => absurd h9 (by decide +kernel))
  refine lv_iconst (v := 0) hx hb d_O_runs_27 (by decide) ?_
  have hP9 := hP.sub (ws' := [(h0, .inr (7, [.int a1, .int 1, .int i_lasts, v_buffer, .int i_size, .int i_documents, v_gone, v_first, v_many, v_lengths, v_authors, v_sums, v_row, v_made, .int i_madeSize, v_base, .int i_baseSize, v_text, .int i_textSize, .int i_textSteps, v_other, .int i_otherSize, v_piece, .int i_pieceSize, .int i_at, .int i_end, .int i_value]))]) [0] rfl
  have hD9 := hD.sub (ws' := [(h0, .inr (7, [.int a1, .int 1, .int i_lasts, v_buffer, .int i_size, .int i_documents, v_gone, v_first, v_many, v_lengths, v_authors, v_sums, v_row, v_made, .int i_madeSize, v_base, .int i_baseSize, v_text, .int i_textSize, .int i_textSteps, v_other, .int i_otherSize, v_piece, .int i_pieceSize, .int i_at, .int i_end, .int i_value]))]) [0] (by decide) rfl
  have hK9 := hK.sub (tys' := []) [] rfl
  exact W.zret (v := 0) (ty := .boolean) hx hb hr rfl (fun t ht hW => ⟨⟨0, (), rfl, rfl, by rw [ht]; exact hP9, va_K.moved hW.alike hK9, hD9⟩, hS.F ht⟩) hS.2.2 d_O_runs_28
set_option maxHeartbeats 4000000 in
set_option maxRecDepth 100000 in
theorem o_writes_T (l : Launch) (dC : Nat → ClassId) (dI : Nat → Nat → Nat) (sz : Nat) (h0 : Nat) (i_thrown : Int32) (i_down : Int32) (v_buffer : Value) (i_size : Int32) (i_documents : Int32) (v_gone : Value) (v_first : Value) (v_many : Value) (v_lengths : Value) (v_authors : Value) (v_sums : Value) (v_row : Value) (v_made : Value) (i_madeSize : Int32) (v_base : Value) (i_baseSize : Int32) (v_text : Value) (i_textSize : Int32) (i_textSteps : Int32) (v_other : Value) (i_otherSize : Int32) (v_piece : Value) (i_pieceSize : Int32) (i_at : Int32) (i_end : Int32) (i_value : Int32) (go : Option Nat) (n : Nat) (hg : ∀ w, go = some w → w < 2 ^ 31) (hn : n < 2 ^ 30) (hle : ∀ w, go = some w → n ≤ w) : Met l y_O_writes k_O_writes ({ frames := 0, cells := 0, slots := 0, locals := 0 } : Room) (va_Pc [.ref h0, .int (nI n)] (pc_E (dC, dI) [(h0, .inr (7, [.int i_thrown, .int i_down, .int (vI go), v_buffer, .int i_size, .int i_documents, v_gone, v_first, v_many, v_lengths, v_authors, v_sums, v_row, v_made, .int i_madeSize, v_base, .int i_baseSize, v_text, .int i_textSize, .int i_textSteps, v_other, .int i_otherSize, v_piece, .int i_pieceSize, .int i_at, .int i_end, .int i_value]))] [] sz)) (va_Qi (fun (r : Int32) (_ : Unit) => r = 1) (fun (_ : Unit) t => ∃ (la : Int32), (la = vI (go.map (· - n))) ∧ at_E (dC, dI) (va_A [(h0, .inr (7, [.int i_thrown, .int i_down, .int (vI go), v_buffer, .int i_size, .int i_documents, v_gone, v_first, v_many, v_lengths, v_authors, v_sums, v_row, v_made, .int i_madeSize, v_base, .int i_baseSize, v_text, .int i_textSize, .int i_textSteps, v_other, .int i_otherSize, v_piece, .int i_pieceSize, .int i_at, .int i_end, .int i_value]))] sz) [(h0, .inr (7, [.int i_thrown, .int i_down, .int la, v_buffer, .int i_size, .int i_documents, v_gone, v_first, v_many, v_lengths, v_authors, v_sums, v_row, v_made, .int i_madeSize, v_base, .int i_baseSize, v_text, .int i_textSize, .int i_textSteps, v_other, .int i_otherSize, v_piece, .int i_pieceSize, .int i_at, .int i_end, .int i_value]))] [] t) (va_A [(h0, .inr (7, [.int i_thrown, .int i_down, .int (vI go), v_buffer, .int i_size, .int i_documents, v_gone, v_first, v_many, v_lengths, v_authors, v_sums, v_row, v_made, .int i_madeSize, v_base, .int i_baseSize, v_text, .int i_textSize, .int i_textSteps, v_other, .int i_otherSize, v_piece, .int i_pieceSize, .int i_at, .int i_end, .int i_value]))] sz)) 0 0 (va_A [(h0, .inr (7, [.int i_thrown, .int i_down, .int (vI go), v_buffer, .int i_size, .int i_documents, v_gone, v_first, v_many, v_lengths, v_authors, v_sums, v_row, v_made, .int i_madeSize, v_base, .int i_baseSize, v_text, .int i_textSize, .int i_textSteps, v_other, .int i_otherSize, v_piece, .int i_pieceSize, .int i_at, .int i_end, .int i_value]))] sz) := by
  refine Met.ofW (cc := prog_9_method_4_code) (maxL := 2) (ret := (some .boolean)) (by decide) rfl ?_
  intro p e s m args below meth c s₁ B hml hv
  obtain ⟨rfl, hsz, hP, hK, hD0, hN⟩ := hv
  have hx := B.exec
  have hb := B.bytes
  have hr := B.returns
  have hts := atoms_spec (ws := k_O_writes) B.pre
  have hw0 : ∀ w ∈ w0, w.before _ s = true := fun w h => hts w (List.mem_cons_of_mem _ h)
  have hown : s.vm.findClass R_O = some m.cls := findClass_of_methodNamed B.named
  have hlocks := B.notSynchronized
  subst hsz
  have hD := hD0.self (sz := s.heap.size)
  generalize hAe : va_A [(h0, .inr (7, [.int i_thrown, .int i_down, .int (vI go), v_buffer, .int i_size, .int i_documents, v_gone, v_first, v_many, v_lengths, v_authors, v_sums, v_row, v_made, .int i_madeSize, v_base, .int i_baseSize, v_text, .int i_textSize, .int i_textSteps, v_other, .int i_otherSize, v_piece, .int i_pieceSize, .int i_at, .int i_end, .int i_value]))] s.heap.size = A at hD ⊢
  have hA : ∀ q : Nat, s.heap.size ≤ q → A q := fun q h => by rw [← hAe]; exact Or.inr h
  have hS : va_S A s.heap s.heap [] := va_S.rf
  have hP : va_P (dC, dI) vwCl [(h0, .inr (7, [.int i_thrown, .int i_down, .int (vI go), v_buffer, .int i_size, .int i_documents, v_gone, v_first, v_many, v_lengths, v_authors, v_sums, v_row, v_made, .int i_madeSize, v_base, .int i_baseSize, v_text, .int i_textSize, .int i_textSteps, v_other, .int i_otherSize, v_piece, .int i_pieceSize, .int i_at, .int i_end, .int i_value]))] s.heap := hP
  have hl := lv_entry ([.ref h0, .int (nI n)]) (n := 2) (Nat.le_of_ble_eq_true rfl)
  rw [lg_entry_eq]
  generalize (lg_sl ([.ref h0, .int (nI n)]) ++ List.replicate (2 - (lg_sl ([.ref h0, .int (nI n)])).length) Slot.unset).toArray = ls at hl ⊢
  have hl : lv_has ls 2 [(0, .ref h0), (1, .int (nI n))] := hl
  refine lv_aload_n hx hb d_O_writes_0 rfl (lv_at hl 0 rfl) ?_
  refine va_get (D := (dC, dI)) (ci := 7) (v := .int (vI go)) (C := R_O) (T := F_O) (N := 27) hx hb hw0 in_O hown hK hP 0 rfl rfl 2 (by decide) (hw0 (.fieldLink R_O 9 "TextKeeperModel" "lasts" "I") wm_331) (fun _ h9 => h9) rfl d_O_writes_1 ?_
  refine lv_iconst (v := (-1)) hx hb d_O_writes_4 (by decide) ?_
  refine lv_icmp_eq (tgt := 16) hx hb d_O_writes_5 (by decide) (fun c_1 => ?_) (fun c_1 => ?_)
  · refine lv_aload_n hx hb d_O_writes_16 rfl (lv_at hl 0 rfl) ?_
    refine lv_aload_n hx hb d_O_writes_17 rfl (lv_at hl 0 rfl) ?_
    refine va_get (D := (dC, dI)) (ci := 7) (v := .int (vI go)) (C := R_O) (T := F_O) (N := 27) hx hb hw0 in_O hown hK hP 0 rfl rfl 2 (by decide) (hw0 (.fieldLink R_O 9 "TextKeeperModel" "lasts" "I") wm_331) (fun _ h9 => h9) rfl d_O_writes_18 ?_
    refine lv_iconst (v := (-1)) hx hb d_O_writes_21 (by decide) ?_
    refine lv_icmp_ne (tgt := 29) hx hb d_O_writes_22 (by decide) (fun c_2 => ?_) (fun c_2 => ?_)
    · refine lv_aload_n hx hb d_O_writes_29 rfl (lv_at hl 0 rfl) ?_
      refine va_get (D := (dC, dI)) (ci := 7) (v := .int (vI go)) (C := R_O) (T := F_O) (N := 27) hx hb hw0 in_O hown hK hP 0 rfl rfl 2 (by decide) (hw0 (.fieldLink R_O 9 "TextKeeperModel" "lasts" "I") wm_331) (fun _ h9 => h9) rfl d_O_writes_30 ?_
      refine lv_iload_n hx hb d_O_writes_33 rfl (lv_at hl 1 rfl) ?_
      refine lv_isub hx hb d_O_writes_34 ?_
      refine lv_topi (fun x_3 ex_3 => ?_)
      refine va_put (D := (dC, dI)) (ci := 7) (v := .int x_3) (ty := .int) (C := R_O) (T := F_O) (N := 27) hx hb hw0 in_O ft_O tk_O nk_O hown hK hP hD hS 0 rfl rfl 2 (by decide) (hw0 (.fieldLink R_O 9 "TextKeeperModel" "lasts" "I") wm_331) (fun _ h9 => h9) rfl (by decide +kernel) rfl rfl (Nat.le_of_ble_eq_true rfl) d_O_writes_35 (fun H locs hP hD hS => ?_)
      replace hP : va_P (dC, dI) vwCl [(h0, .inr (7, [.int i_thrown, .int i_down, .int x_3, v_buffer, .int i_size, .int i_documents, v_gone, v_first, v_many, v_lengths, v_authors, v_sums, v_row, v_made, .int i_madeSize, v_base, .int i_baseSize, v_text, .int i_textSize, .int i_textSteps, v_other, .int i_otherSize, v_piece, .int i_pieceSize, .int i_at, .int i_end, .int i_value]))] H := hP
      replace hD : va_D A [(h0, .inr (7, [.int i_thrown, .int i_down, .int x_3, v_buffer, .int i_size, .int i_documents, v_gone, v_first, v_many, v_lengths, v_authors, v_sums, v_row, v_made, .int i_madeSize, v_base, .int i_baseSize, v_text, .int i_textSize, .int i_textSteps, v_other, .int i_otherSize, v_piece, .int i_pieceSize, .int i_at, .int i_end, .int i_value]))] := hD
      refine lv_iconst (v := 1) hx hb d_O_writes_38 (by decide) ?_
      have hP9 := hP.sub (ws' := [(h0, .inr (7, [.int i_thrown, .int i_down, .int x_3, v_buffer, .int i_size, .int i_documents, v_gone, v_first, v_many, v_lengths, v_authors, v_sums, v_row, v_made, .int i_madeSize, v_base, .int i_baseSize, v_text, .int i_textSize, .int i_textSteps, v_other, .int i_otherSize, v_piece, .int i_pieceSize, .int i_at, .int i_end, .int i_value]))]) [0] rfl
      have hD9 := hD.sub (ws' := [(h0, .inr (7, [.int i_thrown, .int i_down, .int x_3, v_buffer, .int i_size, .int i_documents, v_gone, v_first, v_many, v_lengths, v_authors, v_sums, v_row, v_made, .int i_madeSize, v_base, .int i_baseSize, v_text, .int i_textSize, .int i_textSteps, v_other, .int i_otherSize, v_piece, .int i_pieceSize, .int i_at, .int i_end, .int i_value]))]) [0] (by decide) rfl
      have hK9 := hK.sub (tys' := []) [] rfl
      exact W.zret (v := 1) (ty := .boolean) hx hb hr rfl (fun t ht hW => ⟨⟨1, (), rfl, rfl, x_3, (by obtain ⟨w9, hw9⟩ := vI_some c_2; rw [ex_3, hw9]; exact pk_sub (hle w9 hw9)), by rw [ht]; exact hP9, va_K.moved hW.alike hK9, hD9⟩, hS.F ht⟩) hS.2.2 d_O_writes_39
    · refine lv_iconst (v := (-1)) hx hb d_O_writes_25 (by decide) ?_
      refine lv_goto (tgt := 35) hx hb d_O_writes_26 (by decide) ?_
      refine va_put (D := (dC, dI)) (ci := 7) (v := .int (-1)) (ty := .int) (C := R_O) (T := F_O) (N := 27) hx hb hw0 in_O ft_O tk_O nk_O hown hK hP hD hS 0 rfl rfl 2 (by decide) (hw0 (.fieldLink R_O 9 "TextKeeperModel" "lasts" "I") wm_331) (fun _ h9 => h9) rfl (by decide +kernel) rfl rfl (Nat.le_of_ble_eq_true rfl) d_O_writes_35 (fun H locs hP hD hS => ?_)
      replace hP : va_P (dC, dI) vwCl [(h0, .inr (7, [.int i_thrown, .int i_down, .int (-1), v_buffer, .int i_size, .int i_documents, v_gone, v_first, v_many, v_lengths, v_authors, v_sums, v_row, v_made, .int i_madeSize, v_base, .int i_baseSize, v_text, .int i_textSize, .int i_textSteps, v_other, .int i_otherSize, v_piece, .int i_pieceSize, .int i_at, .int i_end, .int i_value]))] H := hP
      replace hD : va_D A [(h0, .inr (7, [.int i_thrown, .int i_down, .int (-1), v_buffer, .int i_size, .int i_documents, v_gone, v_first, v_many, v_lengths, v_authors, v_sums, v_row, v_made, .int i_madeSize, v_base, .int i_baseSize, v_text, .int i_textSize, .int i_textSteps, v_other, .int i_otherSize, v_piece, .int i_pieceSize, .int i_at, .int i_end, .int i_value]))] := hD
      refine lv_iconst (v := 1) hx hb d_O_writes_38 (by decide) ?_
      have hP9 := hP.sub (ws' := [(h0, .inr (7, [.int i_thrown, .int i_down, .int (-1), v_buffer, .int i_size, .int i_documents, v_gone, v_first, v_many, v_lengths, v_authors, v_sums, v_row, v_made, .int i_madeSize, v_base, .int i_baseSize, v_text, .int i_textSize, .int i_textSteps, v_other, .int i_otherSize, v_piece, .int i_pieceSize, .int i_at, .int i_end, .int i_value]))]) [0] rfl
      have hD9 := hD.sub (ws' := [(h0, .inr (7, [.int i_thrown, .int i_down, .int (-1), v_buffer, .int i_size, .int i_documents, v_gone, v_first, v_many, v_lengths, v_authors, v_sums, v_row, v_made, .int i_madeSize, v_base, .int i_baseSize, v_text, .int i_textSize, .int i_textSteps, v_other, .int i_otherSize, v_piece, .int i_pieceSize, .int i_at, .int i_end, .int i_value]))]) [0] (by decide) rfl
      have hK9 := hK.sub (tys' := []) [] rfl
      exact W.zret (v := 1) (ty := .boolean) hx hb hr rfl (fun t ht hW => ⟨⟨1, (), rfl, rfl, (-1), (by rw [vI_none hg c_2]; rfl), by rw [ht]; exact hP9, va_K.moved hW.alike hK9, hD9⟩, hS.F ht⟩) hS.2.2 d_O_writes_39
  · refine lv_aload_n hx hb d_O_writes_8 rfl (lv_at hl 0 rfl) ?_
    refine va_get (D := (dC, dI)) (ci := 7) (v := .int (vI go)) (C := R_O) (T := F_O) (N := 27) hx hb hw0 in_O hown hK hP 0 rfl rfl 2 (by decide) (hw0 (.fieldLink R_O 9 "TextKeeperModel" "lasts" "I") wm_331) (fun _ h9 => h9) rfl d_O_writes_9 ?_
    refine lv_iload_n hx hb d_O_writes_12 rfl (lv_at hl 1 rfl) ?_
    refine lv_icmp_lt (tgt := 40) hx hb d_O_writes_13 (by decide) (fun c_4 => absurd c_4 (vI_nlt hg hle c_1)) (fun c_4 => ?_)
    refine lv_aload_n hx hb d_O_writes_16 rfl (lv_at hl 0 rfl) ?_
    refine lv_aload_n hx hb d_O_writes_17 rfl (lv_at hl 0 rfl) ?_
    refine va_get (D := (dC, dI)) (ci := 7) (v := .int (vI go)) (C := R_O) (T := F_O) (N := 27) hx hb hw0 in_O hown hK hP 0 rfl rfl 2 (by decide) (hw0 (.fieldLink R_O 9 "TextKeeperModel" "lasts" "I") wm_331) (fun _ h9 => h9) rfl d_O_writes_18 ?_
    refine lv_iconst (v := (-1)) hx hb d_O_writes_21 (by decide) ?_
    refine lv_icmp_ne (tgt := 29) hx hb d_O_writes_22 (by decide) (fun c_5 => ?_) (fun c_5 => ?_)
    · refine lv_aload_n hx hb d_O_writes_29 rfl (lv_at hl 0 rfl) ?_
      refine va_get (D := (dC, dI)) (ci := 7) (v := .int (vI go)) (C := R_O) (T := F_O) (N := 27) hx hb hw0 in_O hown hK hP 0 rfl rfl 2 (by decide) (hw0 (.fieldLink R_O 9 "TextKeeperModel" "lasts" "I") wm_331) (fun _ h9 => h9) rfl d_O_writes_30 ?_
      refine lv_iload_n hx hb d_O_writes_33 rfl (lv_at hl 1 rfl) ?_
      refine lv_isub hx hb d_O_writes_34 ?_
      refine lv_topi (fun x_6 ex_6 => ?_)
      refine va_put (D := (dC, dI)) (ci := 7) (v := .int x_6) (ty := .int) (C := R_O) (T := F_O) (N := 27) hx hb hw0 in_O ft_O tk_O nk_O hown hK hP hD hS 0 rfl rfl 2 (by decide) (hw0 (.fieldLink R_O 9 "TextKeeperModel" "lasts" "I") wm_331) (fun _ h9 => h9) rfl (by decide +kernel) rfl rfl (Nat.le_of_ble_eq_true rfl) d_O_writes_35 (fun H locs hP hD hS => ?_)
      replace hP : va_P (dC, dI) vwCl [(h0, .inr (7, [.int i_thrown, .int i_down, .int x_6, v_buffer, .int i_size, .int i_documents, v_gone, v_first, v_many, v_lengths, v_authors, v_sums, v_row, v_made, .int i_madeSize, v_base, .int i_baseSize, v_text, .int i_textSize, .int i_textSteps, v_other, .int i_otherSize, v_piece, .int i_pieceSize, .int i_at, .int i_end, .int i_value]))] H := hP
      replace hD : va_D A [(h0, .inr (7, [.int i_thrown, .int i_down, .int x_6, v_buffer, .int i_size, .int i_documents, v_gone, v_first, v_many, v_lengths, v_authors, v_sums, v_row, v_made, .int i_madeSize, v_base, .int i_baseSize, v_text, .int i_textSize, .int i_textSteps, v_other, .int i_otherSize, v_piece, .int i_pieceSize, .int i_at, .int i_end, .int i_value]))] := hD
      refine lv_iconst (v := 1) hx hb d_O_writes_38 (by decide) ?_
      have hP9 := hP.sub (ws' := [(h0, .inr (7, [.int i_thrown, .int i_down, .int x_6, v_buffer, .int i_size, .int i_documents, v_gone, v_first, v_many, v_lengths, v_authors, v_sums, v_row, v_made, .int i_madeSize, v_base, .int i_baseSize, v_text, .int i_textSize, .int i_textSteps, v_other, .int i_otherSize, v_piece, .int i_pieceSize, .int i_at, .int i_end, .int i_value]))]) [0] rfl
      have hD9 := hD.sub (ws' := [(h0, .inr (7, [.int i_thrown, .int i_down, .int x_6, v_buffer, .int i_size, .int i_documents, v_gone, v_first, v_many, v_lengths, v_authors, v_sums, v_row, v_made, .int i_madeSize, v_base, .int i_baseSize, v_text, .int i_textSize, .int i_textSteps, v_other, .int i_otherSize, v_piece, .int i_pieceSize, .int i_at, .int i_end, .int i_value]))]) [0] (by decide) rfl
      have hK9 := hK.sub (tys' := []) [] rfl
      exact W.zret (v := 1) (ty := .boolean) hx hb hr rfl (fun t ht hW => ⟨⟨1, (), rfl, rfl, x_6, (by obtain ⟨w9, hw9⟩ := vI_some c_5; rw [ex_6, hw9]; exact pk_sub (hle w9 hw9)), by rw [ht]; exact hP9, va_K.moved hW.alike hK9, hD9⟩, hS.F ht⟩) hS.2.2 d_O_writes_39
    · refine lv_iconst (v := (-1)) hx hb d_O_writes_25 (by decide) ?_
      refine lv_goto (tgt := 35) hx hb d_O_writes_26 (by decide) ?_
      refine va_put (D := (dC, dI)) (ci := 7) (v := .int (-1)) (ty := .int) (C := R_O) (T := F_O) (N := 27) hx hb hw0 in_O ft_O tk_O nk_O hown hK hP hD hS 0 rfl rfl 2 (by decide) (hw0 (.fieldLink R_O 9 "TextKeeperModel" "lasts" "I") wm_331) (fun _ h9 => h9) rfl (by decide +kernel) rfl rfl (Nat.le_of_ble_eq_true rfl) d_O_writes_35 (fun H locs hP hD hS => ?_)
      replace hP : va_P (dC, dI) vwCl [(h0, .inr (7, [.int i_thrown, .int i_down, .int (-1), v_buffer, .int i_size, .int i_documents, v_gone, v_first, v_many, v_lengths, v_authors, v_sums, v_row, v_made, .int i_madeSize, v_base, .int i_baseSize, v_text, .int i_textSize, .int i_textSteps, v_other, .int i_otherSize, v_piece, .int i_pieceSize, .int i_at, .int i_end, .int i_value]))] H := hP
      replace hD : va_D A [(h0, .inr (7, [.int i_thrown, .int i_down, .int (-1), v_buffer, .int i_size, .int i_documents, v_gone, v_first, v_many, v_lengths, v_authors, v_sums, v_row, v_made, .int i_madeSize, v_base, .int i_baseSize, v_text, .int i_textSize, .int i_textSteps, v_other, .int i_otherSize, v_piece, .int i_pieceSize, .int i_at, .int i_end, .int i_value]))] := hD
      refine lv_iconst (v := 1) hx hb d_O_writes_38 (by decide) ?_
      have hP9 := hP.sub (ws' := [(h0, .inr (7, [.int i_thrown, .int i_down, .int (-1), v_buffer, .int i_size, .int i_documents, v_gone, v_first, v_many, v_lengths, v_authors, v_sums, v_row, v_made, .int i_madeSize, v_base, .int i_baseSize, v_text, .int i_textSize, .int i_textSteps, v_other, .int i_otherSize, v_piece, .int i_pieceSize, .int i_at, .int i_end, .int i_value]))]) [0] rfl
      have hD9 := hD.sub (ws' := [(h0, .inr (7, [.int i_thrown, .int i_down, .int (-1), v_buffer, .int i_size, .int i_documents, v_gone, v_first, v_many, v_lengths, v_authors, v_sums, v_row, v_made, .int i_madeSize, v_base, .int i_baseSize, v_text, .int i_textSize, .int i_textSteps, v_other, .int i_otherSize, v_piece, .int i_pieceSize, .int i_at, .int i_end, .int i_value]))]) [0] (by decide) rfl
      have hK9 := hK.sub (tys' := []) [] rfl
      exact W.zret (v := 1) (ty := .boolean) hx hb hr rfl (fun t ht hW => ⟨⟨1, (), rfl, rfl, (-1), (by rw [vI_none hg c_5]; rfl), by rw [ht]; exact hP9, va_K.moved hW.alike hK9, hD9⟩, hS.F ht⟩) hS.2.2 d_O_writes_39
set_option maxHeartbeats 4000000 in
set_option maxRecDepth 100000 in
theorem o_writes_F (l : Launch) (dC : Nat → ClassId) (dI : Nat → Nat → Nat) (sz : Nat) (h0 : Nat) (i_thrown : Int32) (i_down : Int32) (v_buffer : Value) (i_size : Int32) (i_documents : Int32) (v_gone : Value) (v_first : Value) (v_many : Value) (v_lengths : Value) (v_authors : Value) (v_sums : Value) (v_row : Value) (v_made : Value) (i_madeSize : Int32) (v_base : Value) (i_baseSize : Int32) (v_text : Value) (i_textSize : Int32) (i_textSteps : Int32) (v_other : Value) (i_otherSize : Int32) (v_piece : Value) (i_pieceSize : Int32) (i_at : Int32) (i_end : Int32) (i_value : Int32) (go : Option Nat) (w9 : Nat) (n : Nat) (hw8 : go = some w9) (hw9 : w9 < n) (hn : n < 2 ^ 30) : Met l y_O_writes k_O_writes ({ frames := 0, cells := 0, slots := 0, locals := 0 } : Room) (va_Pc [.ref h0, .int (nI n)] (pc_E (dC, dI) [(h0, .inr (7, [.int i_thrown, .int i_down, .int (vI go), v_buffer, .int i_size, .int i_documents, v_gone, v_first, v_many, v_lengths, v_authors, v_sums, v_row, v_made, .int i_madeSize, v_base, .int i_baseSize, v_text, .int i_textSize, .int i_textSteps, v_other, .int i_otherSize, v_piece, .int i_pieceSize, .int i_at, .int i_end, .int i_value]))] [] sz)) (va_Qi (fun (r : Int32) (_ : Unit) => r = 0) (fun (_ : Unit) t => at_E (dC, dI) (va_A [(h0, .inr (7, [.int i_thrown, .int i_down, .int (vI go), v_buffer, .int i_size, .int i_documents, v_gone, v_first, v_many, v_lengths, v_authors, v_sums, v_row, v_made, .int i_madeSize, v_base, .int i_baseSize, v_text, .int i_textSize, .int i_textSteps, v_other, .int i_otherSize, v_piece, .int i_pieceSize, .int i_at, .int i_end, .int i_value]))] sz) [(h0, .inr (7, [.int 1, .int 1, .int (-1), v_buffer, .int 0, .int i_documents, v_gone, v_first, v_many, v_lengths, v_authors, v_sums, v_row, v_made, .int i_madeSize, v_base, .int i_baseSize, v_text, .int i_textSize, .int i_textSteps, v_other, .int i_otherSize, v_piece, .int i_pieceSize, .int i_at, .int i_end, .int i_value]))] [] t) (va_A [(h0, .inr (7, [.int i_thrown, .int i_down, .int (vI go), v_buffer, .int i_size, .int i_documents, v_gone, v_first, v_many, v_lengths, v_authors, v_sums, v_row, v_made, .int i_madeSize, v_base, .int i_baseSize, v_text, .int i_textSize, .int i_textSteps, v_other, .int i_otherSize, v_piece, .int i_pieceSize, .int i_at, .int i_end, .int i_value]))] sz)) 0 0 (va_A [(h0, .inr (7, [.int i_thrown, .int i_down, .int (vI go), v_buffer, .int i_size, .int i_documents, v_gone, v_first, v_many, v_lengths, v_authors, v_sums, v_row, v_made, .int i_madeSize, v_base, .int i_baseSize, v_text, .int i_textSize, .int i_textSteps, v_other, .int i_otherSize, v_piece, .int i_pieceSize, .int i_at, .int i_end, .int i_value]))] sz) := by
  refine Met.ofW (cc := prog_9_method_4_code) (maxL := 2) (ret := (some .boolean)) (by decide) rfl ?_
  intro p e s m args below meth c s₁ B hml hv
  obtain ⟨rfl, hsz, hP, hK, hD0, hN⟩ := hv
  have hx := B.exec
  have hb := B.bytes
  have hr := B.returns
  have hts := atoms_spec (ws := k_O_writes) B.pre
  have hw0 : ∀ w ∈ w0, w.before _ s = true := fun w h => hts w (List.mem_cons_of_mem _ h)
  have hown : s.vm.findClass R_O = some m.cls := findClass_of_methodNamed B.named
  have hlocks := B.notSynchronized
  subst hsz
  have hD := hD0.self (sz := s.heap.size)
  generalize hAe : va_A [(h0, .inr (7, [.int i_thrown, .int i_down, .int (vI go), v_buffer, .int i_size, .int i_documents, v_gone, v_first, v_many, v_lengths, v_authors, v_sums, v_row, v_made, .int i_madeSize, v_base, .int i_baseSize, v_text, .int i_textSize, .int i_textSteps, v_other, .int i_otherSize, v_piece, .int i_pieceSize, .int i_at, .int i_end, .int i_value]))] s.heap.size = A at hD ⊢
  have hA : ∀ q : Nat, s.heap.size ≤ q → A q := fun q h => by rw [← hAe]; exact Or.inr h
  have hS : va_S A s.heap s.heap [] := va_S.rf
  have hP : va_P (dC, dI) vwCl [(h0, .inr (7, [.int i_thrown, .int i_down, .int (vI go), v_buffer, .int i_size, .int i_documents, v_gone, v_first, v_many, v_lengths, v_authors, v_sums, v_row, v_made, .int i_madeSize, v_base, .int i_baseSize, v_text, .int i_textSize, .int i_textSteps, v_other, .int i_otherSize, v_piece, .int i_pieceSize, .int i_at, .int i_end, .int i_value]))] s.heap := hP
  have hl := lv_entry ([.ref h0, .int (nI n)]) (n := 2) (Nat.le_of_ble_eq_true rfl)
  rw [lg_entry_eq]
  generalize (lg_sl ([.ref h0, .int (nI n)]) ++ List.replicate (2 - (lg_sl ([.ref h0, .int (nI n)])).length) Slot.unset).toArray = ls at hl ⊢
  have hl : lv_has ls 2 [(0, .ref h0), (1, .int (nI n))] := hl
  refine lv_aload_n hx hb d_O_writes_0 rfl (lv_at hl 0 rfl) ?_
  refine va_get (D := (dC, dI)) (ci := 7) (v := .int (vI go)) (C := R_O) (T := F_O) (N := 27) hx hb hw0 in_O hown hK hP 0 rfl rfl 2 (by decide) (hw0 (.fieldLink R_O 9 "TextKeeperModel" "lasts" "I") wm_331) (fun _ h9 => h9) rfl d_O_writes_1 ?_
  refine lv_iconst (v := (-1)) hx hb d_O_writes_4 (by decide) ?_
  refine lv_icmp_eq (tgt := 16) hx hb d_O_writes_5 (by decide) (fun c_1 => absurd c_1 (by rw [hw8]; exact nI_m1 (by omega))) (fun c_1 => ?_)
  refine lv_aload_n hx hb d_O_writes_8 rfl (lv_at hl 0 rfl) ?_
  refine va_get (D := (dC, dI)) (ci := 7) (v := .int (vI go)) (C := R_O) (T := F_O) (N := 27) hx hb hw0 in_O hown hK hP 0 rfl rfl 2 (by decide) (hw0 (.fieldLink R_O 9 "TextKeeperModel" "lasts" "I") wm_331) (fun _ h9 => h9) rfl d_O_writes_9 ?_
  refine lv_iload_n hx hb d_O_writes_12 rfl (lv_at hl 1 rfl) ?_
  refine lv_icmp_lt (tgt := 40) hx hb d_O_writes_13 (by decide) (fun c_2 => ?_) (fun c_2 => absurd (by rw [hw8]; exact nI_lt hw9 (by omega)) c_2)
  refine lv_aload_n hx hb d_O_writes_40 rfl (lv_at hl 0 rfl) ?_
  refine lv_iconst (v := 1) hx hb d_O_writes_41 (by decide) ?_
  refine va_put (D := (dC, dI)) (ci := 7) (v := .int 1) (ty := .boolean) (C := R_O) (T := F_O) (N := 27) hx hb hw0 in_O ft_O tk_O nk_O hown hK hP hD hS 0 rfl rfl 1 (by decide) (hw0 (.fieldLink R_O 65 "TextKeeperModel" "down" "Z") wm_329) (fun _ h9 => h9) rfl (by decide +kernel) rfl rfl (Nat.le_of_ble_eq_true rfl) d_O_writes_42 (fun H locs hP hD hS => ?_)
  replace hP : va_P (dC, dI) vwCl [(h0, .inr (7, [.int i_thrown, .int 1, .int (vI go), v_buffer, .int i_size, .int i_documents, v_gone, v_first, v_many, v_lengths, v_authors, v_sums, v_row, v_made, .int i_madeSize, v_base, .int i_baseSize, v_text, .int i_textSize, .int i_textSteps, v_other, .int i_otherSize, v_piece, .int i_pieceSize, .int i_at, .int i_end, .int i_value]))] H := hP
  replace hD : va_D A [(h0, .inr (7, [.int i_thrown, .int 1, .int (vI go), v_buffer, .int i_size, .int i_documents, v_gone, v_first, v_many, v_lengths, v_authors, v_sums, v_row, v_made, .int i_madeSize, v_base, .int i_baseSize, v_text, .int i_textSize, .int i_textSteps, v_other, .int i_otherSize, v_piece, .int i_pieceSize, .int i_at, .int i_end, .int i_value]))] := hD
  refine lv_aload_n hx hb d_O_writes_45 rfl (lv_at hl 0 rfl) ?_
  refine lv_iconst (v := (-1)) hx hb d_O_writes_46 (by decide) ?_
  refine va_put (D := (dC, dI)) (ci := 7) (v := .int (-1)) (ty := .int) (C := R_O) (T := F_O) (N := 27) hx hb hw0 in_O ft_O tk_O nk_O hown hK hP hD hS 0 rfl rfl 2 (by decide) (hw0 (.fieldLink R_O 9 "TextKeeperModel" "lasts" "I") wm_331) (fun _ h9 => h9) rfl (by decide +kernel) rfl rfl (Nat.le_of_ble_eq_true rfl) d_O_writes_47 (fun H locs hP hD hS => ?_)
  replace hP : va_P (dC, dI) vwCl [(h0, .inr (7, [.int i_thrown, .int 1, .int (-1), v_buffer, .int i_size, .int i_documents, v_gone, v_first, v_many, v_lengths, v_authors, v_sums, v_row, v_made, .int i_madeSize, v_base, .int i_baseSize, v_text, .int i_textSize, .int i_textSteps, v_other, .int i_otherSize, v_piece, .int i_pieceSize, .int i_at, .int i_end, .int i_value]))] H := hP
  replace hD : va_D A [(h0, .inr (7, [.int i_thrown, .int 1, .int (-1), v_buffer, .int i_size, .int i_documents, v_gone, v_first, v_many, v_lengths, v_authors, v_sums, v_row, v_made, .int i_madeSize, v_base, .int i_baseSize, v_text, .int i_textSize, .int i_textSteps, v_other, .int i_otherSize, v_piece, .int i_pieceSize, .int i_at, .int i_end, .int i_value]))] := hD
  refine lv_aload_n hx hb d_O_writes_50 rfl (lv_at hl 0 rfl) ?_
  refine lv_iconst (v := 0) hx hb d_O_writes_51 (by decide) ?_
  refine va_put (D := (dC, dI)) (ci := 7) (v := .int 0) (ty := .int) (C := R_O) (T := F_O) (N := 27) hx hb hw0 in_O ft_O tk_O nk_O hown hK hP hD hS 0 rfl rfl 4 (by decide) (hw0 (.fieldLink R_O 69 "TextKeeperModel" "size" "I") wm_245) (fun _ h9 => h9) rfl (by decide +kernel) rfl rfl (Nat.le_of_ble_eq_true rfl) d_O_writes_52 (fun H locs hP hD hS => ?_)
  replace hP : va_P (dC, dI) vwCl [(h0, .inr (7, [.int i_thrown, .int 1, .int (-1), v_buffer, .int 0, .int i_documents, v_gone, v_first, v_many, v_lengths, v_authors, v_sums, v_row, v_made, .int i_madeSize, v_base, .int i_baseSize, v_text, .int i_textSize, .int i_textSteps, v_other, .int i_otherSize, v_piece, .int i_pieceSize, .int i_at, .int i_end, .int i_value]))] H := hP
  replace hD : va_D A [(h0, .inr (7, [.int i_thrown, .int 1, .int (-1), v_buffer, .int 0, .int i_documents, v_gone, v_first, v_many, v_lengths, v_authors, v_sums, v_row, v_made, .int i_madeSize, v_base, .int i_baseSize, v_text, .int i_textSize, .int i_textSteps, v_other, .int i_otherSize, v_piece, .int i_pieceSize, .int i_at, .int i_end, .int i_value]))] := hD
  refine lv_aload_n hx hb d_O_writes_55 rfl (lv_at hl 0 rfl) ?_
  refine lv_iconst (v := 1) hx hb d_O_writes_56 (by decide) ?_
  refine va_put (D := (dC, dI)) (ci := 7) (v := .int 1) (ty := .int) (C := R_O) (T := F_O) (N := 27) hx hb hw0 in_O ft_O tk_O nk_O hown hK hP hD hS 0 rfl rfl 0 (by decide) (hw0 (.fieldLink R_O 62 "TextKeeperModel" "thrown" "I") wm_330) (fun _ h9 => h9) rfl (by decide +kernel) rfl rfl (Nat.le_of_ble_eq_true rfl) d_O_writes_57 (fun H locs hP hD hS => ?_)
  replace hP : va_P (dC, dI) vwCl [(h0, .inr (7, [.int 1, .int 1, .int (-1), v_buffer, .int 0, .int i_documents, v_gone, v_first, v_many, v_lengths, v_authors, v_sums, v_row, v_made, .int i_madeSize, v_base, .int i_baseSize, v_text, .int i_textSize, .int i_textSteps, v_other, .int i_otherSize, v_piece, .int i_pieceSize, .int i_at, .int i_end, .int i_value]))] H := hP
  replace hD : va_D A [(h0, .inr (7, [.int 1, .int 1, .int (-1), v_buffer, .int 0, .int i_documents, v_gone, v_first, v_many, v_lengths, v_authors, v_sums, v_row, v_made, .int i_madeSize, v_base, .int i_baseSize, v_text, .int i_textSize, .int i_textSteps, v_other, .int i_otherSize, v_piece, .int i_pieceSize, .int i_at, .int i_end, .int i_value]))] := hD
  refine lv_iconst (v := 0) hx hb d_O_writes_60 (by decide) ?_
  have hP9 := hP.sub (ws' := [(h0, .inr (7, [.int 1, .int 1, .int (-1), v_buffer, .int 0, .int i_documents, v_gone, v_first, v_many, v_lengths, v_authors, v_sums, v_row, v_made, .int i_madeSize, v_base, .int i_baseSize, v_text, .int i_textSize, .int i_textSteps, v_other, .int i_otherSize, v_piece, .int i_pieceSize, .int i_at, .int i_end, .int i_value]))]) [0] rfl
  have hD9 := hD.sub (ws' := [(h0, .inr (7, [.int 1, .int 1, .int (-1), v_buffer, .int 0, .int i_documents, v_gone, v_first, v_many, v_lengths, v_authors, v_sums, v_row, v_made, .int i_madeSize, v_base, .int i_baseSize, v_text, .int i_textSize, .int i_textSteps, v_other, .int i_otherSize, v_piece, .int i_pieceSize, .int i_at, .int i_end, .int i_value]))]) [0] (by decide) rfl
  have hK9 := hK.sub (tys' := []) [] rfl
  exact W.zret (v := 0) (ty := .boolean) hx hb hr rfl (fun t ht hW => ⟨⟨0, (), rfl, rfl, by rw [ht]; exact hP9, va_K.moved hW.alike hK9, hD9⟩, hS.F ht⟩) hS.2.2 d_O_writes_61
set_option maxHeartbeats 4000000 in
set_option maxRecDepth 100000 in
theorem o_isDoc_T (l : Launch) (dC : Nat → ClassId) (dI : Nat → Nat → Nat) (h0 : Nat) (i_thrown : Int32) (i_down : Int32) (i_lasts : Int32) (v_buffer : Value) (i_size : Int32) (v_first : Value) (v_many : Value) (v_lengths : Value) (v_authors : Value) (v_sums : Value) (v_row : Value) (v_made : Value) (i_madeSize : Int32) (v_base : Value) (i_baseSize : Int32) (v_text : Value) (i_textSize : Int32) (i_textSteps : Int32) (v_other : Value) (i_otherSize : Int32) (v_piece : Value) (i_pieceSize : Int32) (i_at : Int32) (i_end : Int32) (i_value : Int32) (nd : Nat) (hgo : Nat) (cZ : ClassId) (fg : Nat → Int32) (d9 : Nat) (hnd : nd ≤ 8) (hd9 : d9 < nd) (hgn : fg d9 = 0) : Met l y_O_isDocument k_O_isDocument ({ frames := 0, cells := 0, slots := 0, locals := 0 } : Room) (va_Pc [.ref h0, .int (nI d9)] (pc_R (dC, dI) [(h0, .inr (7, [.int i_thrown, .int i_down, .int i_lasts, v_buffer, .int i_size, .int (nI nd), .ref hgo, v_first, v_many, v_lengths, v_authors, v_sums, v_row, v_made, .int i_madeSize, v_base, .int i_baseSize, v_text, .int i_textSize, .int i_textSteps, v_other, .int i_otherSize, v_piece, .int i_pieceSize, .int i_at, .int i_end, .int i_value])), (hgo, .inl (cZ, 8, .inl (fg)))] [(cZ, .boolean)])) (vp_Si (fun r => r = 1)) 0 0 (fun _ => False) := by
  refine Met.ofW (cc := prog_9_method_7_code) (maxL := 2) (ret := (some .boolean)) (by decide) rfl ?_
  intro p e s m args below meth c s₁ B hml hv
  obtain ⟨rfl, hP, hK, hN⟩ := hv
  have hx := B.exec
  have hb := B.bytes
  have hr := B.returns
  have hts := atoms_spec (ws := k_O_isDocument) B.pre
  have hw0 : ∀ w ∈ w0, w.before _ s = true := fun w h => hts w (List.mem_cons_of_mem _ h)
  have hown : s.vm.findClass R_O = some m.cls := findClass_of_methodNamed B.named
  have hlocks := B.notSynchronized
  have hP : va_P (dC, dI) vwCl [(h0, .inr (7, [.int i_thrown, .int i_down, .int i_lasts, v_buffer, .int i_size, .int (nI nd), .ref hgo, v_first, v_many, v_lengths, v_authors, v_sums, v_row, v_made, .int i_madeSize, v_base, .int i_baseSize, v_text, .int i_textSize, .int i_textSteps, v_other, .int i_otherSize, v_piece, .int i_pieceSize, .int i_at, .int i_end, .int i_value])), (hgo, .inl (cZ, 8, .inl (fg)))] s.heap := hP
  have hl := lv_entry ([.ref h0, .int (nI d9)]) (n := 2) (Nat.le_of_ble_eq_true rfl)
  rw [lg_entry_eq]
  generalize (lg_sl ([.ref h0, .int (nI d9)]) ++ List.replicate (2 - (lg_sl ([.ref h0, .int (nI d9)])).length) Slot.unset).toArray = ls at hl ⊢
  have hl : lv_has ls 2 [(0, .ref h0), (1, .int (nI d9))] := hl
  refine lv_iload_n hx hb d_O_isDocument_0 rfl (lv_at hl 1 rfl) ?_
  refine lv_if_lt (tgt := 25) hx hb d_O_isDocument_1 (by decide) (fun c_1 => absurd c_1 (nI_pos (by omega))) (fun c_1 => ?_)
  refine lv_iload_n hx hb d_O_isDocument_4 rfl (lv_at hl 1 rfl) ?_
  refine lv_aload_n hx hb d_O_isDocument_5 rfl (lv_at hl 0 rfl) ?_
  refine va_get (D := (dC, dI)) (ci := 7) (v := .int (nI nd)) (C := R_O) (T := F_O) (N := 27) hx hb hw0 in_O hown hK hP 0 rfl rfl 5 (by decide) (hw0 (.fieldLink R_O 76 "TextKeeperModel" "documents" "I") wm_332) (fun _ h9 => h9) rfl d_O_isDocument_6 ?_
  refine lv_icmp_ge (tgt := 25) hx hb d_O_isDocument_9 (by decide) (fun c_2 => absurd c_2 (nI_ge hd9 (by omega))) (fun c_2 => ?_)
  refine lv_aload_n hx hb d_O_isDocument_12 rfl (lv_at hl 0 rfl) ?_
  refine va_get (D := (dC, dI)) (ci := 7) (v := .ref hgo) (C := R_O) (T := F_O) (N := 27) hx hb hw0 in_O hown hK hP 0 rfl rfl 6 (by decide) (hw0 (.fieldLink R_O 17 "TextKeeperModel" "gone" "[Z") wm_333) (fun _ h9 => h9) rfl d_O_isDocument_13 ?_
  refine lv_iload_n hx hb d_O_isDocument_16 rfl (lv_at hl 1 rfl) ?_
  refine va_zald hx hb hK hP 1 0 rfl rfl (vp_in_nI (by omega) (by decide)) d_O_isDocument_17 ?_
  refine lv_topi (fun x_3 ex_3 => ?_)
  refine lv_if_ne (tgt := 25) hx hb d_O_isDocument_18 (by decide) (fun c_4 => absurd (by rw [ex_3, nI_clamp (by omega)]; exact hgn) c_4) (fun c_4 => ?_)
  refine lv_iconst (v := 1) hx hb d_O_isDocument_21 (by decide) ?_
  refine lv_goto (tgt := 26) hx hb d_O_isDocument_22 (by decide) ?_
  exact W.zret (v := 1) (ty := .boolean) hx hb hr rfl (fun t ht hW => ⟨1, rfl, rfl, ht⟩) (fun q h => by cases h) d_O_isDocument_26
set_option maxHeartbeats 4000000 in
set_option maxRecDepth 100000 in
theorem o_isDoc_F (l : Launch) (dC : Nat → ClassId) (dI : Nat → Nat → Nat) (h0 : Nat) (i_thrown : Int32) (i_down : Int32) (i_lasts : Int32) (v_buffer : Value) (i_size : Int32) (v_first : Value) (v_many : Value) (v_lengths : Value) (v_authors : Value) (v_sums : Value) (v_row : Value) (v_made : Value) (i_madeSize : Int32) (v_base : Value) (i_baseSize : Int32) (v_text : Value) (i_textSize : Int32) (i_textSteps : Int32) (v_other : Value) (i_otherSize : Int32) (v_piece : Value) (i_pieceSize : Int32) (i_at : Int32) (i_end : Int32) (i_value : Int32) (nd : Nat) (hgo : Nat) (cZ : ClassId) (fg : Nat → Int32) (a1 : Int32) (hnd : nd ≤ 8) (hF : a1 < 0 ∨ nI nd ≤ a1 ∨ ¬ fg a1.toNatClampNeg = 0) : Met l y_O_isDocument k_O_isDocument ({ frames := 0, cells := 0, slots := 0, locals := 0 } : Room) (va_Pc [.ref h0, .int a1] (pc_R (dC, dI) [(h0, .inr (7, [.int i_thrown, .int i_down, .int i_lasts, v_buffer, .int i_size, .int (nI nd), .ref hgo, v_first, v_many, v_lengths, v_authors, v_sums, v_row, v_made, .int i_madeSize, v_base, .int i_baseSize, v_text, .int i_textSize, .int i_textSteps, v_other, .int i_otherSize, v_piece, .int i_pieceSize, .int i_at, .int i_end, .int i_value])), (hgo, .inl (cZ, 8, .inl (fg)))] [(cZ, .boolean)])) (vp_Si (fun r => r = 0)) 0 0 (fun _ => False) := by
  refine Met.ofW (cc := prog_9_method_7_code) (maxL := 2) (ret := (some .boolean)) (by decide) rfl ?_
  intro p e s m args below meth c s₁ B hml hv
  obtain ⟨rfl, hP, hK, hN⟩ := hv
  have hx := B.exec
  have hb := B.bytes
  have hr := B.returns
  have hts := atoms_spec (ws := k_O_isDocument) B.pre
  have hw0 : ∀ w ∈ w0, w.before _ s = true := fun w h => hts w (List.mem_cons_of_mem _ h)
  have hown : s.vm.findClass R_O = some m.cls := findClass_of_methodNamed B.named
  have hlocks := B.notSynchronized
  have hP : va_P (dC, dI) vwCl [(h0, .inr (7, [.int i_thrown, .int i_down, .int i_lasts, v_buffer, .int i_size, .int (nI nd), .ref hgo, v_first, v_many, v_lengths, v_authors, v_sums, v_row, v_made, .int i_madeSize, v_base, .int i_baseSize, v_text, .int i_textSize, .int i_textSteps, v_other, .int i_otherSize, v_piece, .int i_pieceSize, .int i_at, .int i_end, .int i_value])), (hgo, .inl (cZ, 8, .inl (fg)))] s.heap := hP
  have hl := lv_entry ([.ref h0, .int a1]) (n := 2) (Nat.le_of_ble_eq_true rfl)
  rw [lg_entry_eq]
  generalize (lg_sl ([.ref h0, .int a1]) ++ List.replicate (2 - (lg_sl ([.ref h0, .int a1])).length) Slot.unset).toArray = ls at hl ⊢
  have hl : lv_has ls 2 [(0, .ref h0), (1, .int a1)] := hl
  refine lv_iload_n hx hb d_O_isDocument_0 rfl (lv_at hl 1 rfl) ?_
  refine lv_if_lt (tgt := 25) hx hb d_O_isDocument_1 (by decide) (fun c_1 => ?_) (fun c_1 => ?_)
  · refine lv_iconst (v := 0) hx hb d_O_isDocument_25 (by decide) ?_
    exact W.zret (v := 0) (ty := .boolean) hx hb hr rfl (fun t ht hW => ⟨0, rfl, rfl, ht⟩) (fun q h => by cases h) d_O_isDocument_26
  · refine lv_iload_n hx hb d_O_isDocument_4 rfl (lv_at hl 1 rfl) ?_
    refine lv_aload_n hx hb d_O_isDocument_5 rfl (lv_at hl 0 rfl) ?_
    refine va_get (D := (dC, dI)) (ci := 7) (v := .int (nI nd)) (C := R_O) (T := F_O) (N := 27) hx hb hw0 in_O hown hK hP 0 rfl rfl 5 (by decide) (hw0 (.fieldLink R_O 76 "TextKeeperModel" "documents" "I") wm_332) (fun _ h9 => h9) rfl d_O_isDocument_6 ?_
    refine lv_icmp_ge (tgt := 25) hx hb d_O_isDocument_9 (by decide) (fun c_2 => ?_) (fun c_2 => ?_)
    · refine lv_iconst (v := 0) hx hb d_O_isDocument_25 (by decide) ?_
      exact W.zret (v := 0) (ty := .boolean) hx hb hr rfl (fun t ht hW => ⟨0, rfl, rfl, ht⟩) (fun q h => by cases h) d_O_isDocument_26
    · refine lv_aload_n hx hb d_O_isDocument_12 rfl (lv_at hl 0 rfl) ?_
      refine va_get (D := (dC, dI)) (ci := 7) (v := .ref hgo) (C := R_O) (T := F_O) (N := 27) hx hb hw0 in_O hown hK hP 0 rfl rfl 6 (by decide) (hw0 (.fieldLink R_O 17 "TextKeeperModel" "gone" "[Z") wm_333) (fun _ h9 => h9) rfl d_O_isDocument_13 ?_
      refine lv_iload_n hx hb d_O_isDocument_16 rfl (lv_at hl 1 rfl) ?_
      refine va_zald hx hb hK hP 1 0 rfl rfl (x_inK hnd (by decide) c_1 c_2) d_O_isDocument_17 ?_
      refine lv_topi (fun x_3 ex_3 => ?_)
      refine lv_if_ne (tgt := 25) hx hb d_O_isDocument_18 (by decide) (fun c_4 => ?_) (fun c_4 => absurd (by rw [← ex_3]; exact c_4) ((hF.resolve_left c_1).resolve_left c_2))
      refine lv_iconst (v := 0) hx hb d_O_isDocument_25 (by decide) ?_
      exact W.zret (v := 0) (ty := .boolean) hx hb hr rfl (fun t ht hW => ⟨0, rfl, rfl, ht⟩) (fun q h => by cases h) d_O_isDocument_26
set_option maxHeartbeats 4000000 in
set_option maxRecDepth 100000 in
theorem o_asked_T (l : Launch) (dC : Nat → ClassId) (dI : Nat → Nat → Nat) (h0 : Nat) (i_thrown : Int32) (i_down : Int32) (i_lasts : Int32) (v_buffer : Value) (i_size : Int32) (v_lengths : Value) (v_authors : Value) (v_sums : Value) (v_row : Value) (v_made : Value) (i_madeSize : Int32) (v_base : Value) (i_baseSize : Int32) (v_text : Value) (i_textSize : Int32) (i_textSteps : Int32) (v_other : Value) (i_otherSize : Int32) (v_piece : Value) (i_pieceSize : Int32) (i_at : Int32) (i_end : Int32) (i_value : Int32) (nd : Nat) (hgo : Nat) (cZ : ClassId) (fg : Nat → Int32) (hfi : Nat) (cI : ClassId) (ff : Nat → Int32) (hma : Nat) (fm : Nat → Int32) (d9 : Nat) (df : Nat) (dn : Nat) (r9 : Nat) (hnd : nd ≤ 8) (hd9 : d9 < nd) (hgn : fg d9 = 0) (hff : ff d9 = nI df) (hfm : fm d9 = nI dn) (hdn : dn ≤ 64) (ha1 : df ≤ r9) (ha2 : r9 < dn) : Met l y_O_isAsked k_O_isAsked ({ frames := 1, cells := 0, slots := 0, locals := 21 } : Room) (va_Pc [.ref h0, .int (nI d9), .int (nI r9)] (pc_R (dC, dI) [(h0, .inr (7, [.int i_thrown, .int i_down, .int i_lasts, v_buffer, .int i_size, .int (nI nd), .ref hgo, .ref hfi, .ref hma, v_lengths, v_authors, v_sums, v_row, v_made, .int i_madeSize, v_base, .int i_baseSize, v_text, .int i_textSize, .int i_textSteps, v_other, .int i_otherSize, v_piece, .int i_pieceSize, .int i_at, .int i_end, .int i_value])), (hgo, .inl (cZ, 8, .inl (fg))), (hfi, .inl (cI, 8, .inl (ff))), (hma, .inl (cI, 8, .inl (fm)))] [(cZ, .boolean), (cI, .int)])) (vp_Si (fun r => r = 1)) 0 0 (fun _ => False) := by
  refine Met.ofW (cc := prog_9_method_8_code) (maxL := 3) (ret := (some .boolean)) (by decide) rfl ?_
  intro p e s m args below meth c s₁ B hml hv
  obtain ⟨rfl, hP, hK, hN⟩ := hv
  have hx := B.exec
  have hb := B.bytes
  have hr := B.returns
  have hts := atoms_spec (ws := k_O_isAsked) B.pre
  have hw0 : ∀ w ∈ w0, w.before _ s = true := fun w h => hts w (List.mem_cons_of_mem _ h)
  have hown : s.vm.findClass R_O = some m.cls := findClass_of_methodNamed B.named
  have hlocks := B.notSynchronized
  have hP : va_P (dC, dI) vwCl [(h0, .inr (7, [.int i_thrown, .int i_down, .int i_lasts, v_buffer, .int i_size, .int (nI nd), .ref hgo, .ref hfi, .ref hma, v_lengths, v_authors, v_sums, v_row, v_made, .int i_madeSize, v_base, .int i_baseSize, v_text, .int i_textSize, .int i_textSteps, v_other, .int i_otherSize, v_piece, .int i_pieceSize, .int i_at, .int i_end, .int i_value])), (hgo, .inl (cZ, 8, .inl (fg))), (hfi, .inl (cI, 8, .inl (ff))), (hma, .inl (cI, 8, .inl (fm)))] s.heap := hP
  have hl := lv_entry ([.ref h0, .int (nI d9), .int (nI r9)]) (n := 3) (Nat.le_of_ble_eq_true rfl)
  rw [lg_entry_eq]
  generalize (lg_sl ([.ref h0, .int (nI d9), .int (nI r9)]) ++ List.replicate (3 - (lg_sl ([.ref h0, .int (nI d9), .int (nI r9)])).length) Slot.unset).toArray = ls at hl ⊢
  have hl : lv_has ls 3 [(0, .ref h0), (1, .int (nI d9)), (2, .int (nI r9))] := hl
  refine lv_aload_n hx hb d_O_isAsked_0 rfl (lv_at hl 0 rfl) ?_
  refine lv_iload_n hx hb d_O_isAsked_1 rfl (lv_at hl 1 rfl) ?_
  have hPc := hP.sub (ws' := [(h0, .inr (7, [.int i_thrown, .int i_down, .int i_lasts, v_buffer, .int i_size, .int (nI nd), .ref hgo, .ref hfi, .ref hma, v_lengths, v_authors, v_sums, v_row, v_made, .int i_madeSize, v_base, .int i_baseSize, v_text, .int i_textSize, .int i_textSteps, v_other, .int i_otherSize, v_piece, .int i_pieceSize, .int i_at, .int i_end, .int i_value])), (hgo, .inl (cZ, 8, .inl ((fg))))]) [0, 1] rfl
  have hKc := hK.sub (tys' := [(cZ, .boolean)]) [0] rfl
  refine ps_i (va_runV (As := [.int (nI d9)]) (rest := []) ⟨hx, hb, hml, hown, hw0⟩ (o_isDoc_T l dC dI h0 i_thrown i_down i_lasts v_buffer i_size (.ref hfi) (.ref hma) v_lengths v_authors v_sums v_row v_made i_madeSize v_base i_baseSize v_text i_textSize i_textSteps v_other i_otherSize v_piece i_pieceSize i_at i_end i_value nd hgo cZ (fg) d9 (by first | assumption | decide | omega) (by first | assumption | decide | omega) (by first | assumption | decide | omega)) (cwV 1 hw0 (gd_Vm wm_334 wm_335 wm_336 wm_243 wm_337) rfl rfl rfl (by decide +kernel) ⟨by decide +kernel, by decide +kernel⟩) (prV_R hPc hKc hN (va_recv hKc hPc (ci := 7) (q0 := 0) rfl rfl)) rfl rfl hl.1 rfl (lv_room (Nat.le_of_ble_eq_true rfl)) d_O_isAsked_2 ⟨by decide +kernel, by decide +kernel⟩) (fun r_1 hr_1 => ?_)
  obtain rfl : r_1 = 1 := hr_1
  refine lv_if_eq (tgt := 32) hx hb d_O_isAsked_5 (by decide) (fun h9 => absurd h9 (by decide +kernel)) (fun _ => ?_)
  refine lv_iload_n hx hb d_O_isAsked_8 rfl (lv_at hl 2 rfl) ?_
  refine lv_aload_n hx hb d_O_isAsked_9 rfl (lv_at hl 0 rfl) ?_
  refine va_get (D := (dC, dI)) (ci := 7) (v := .ref hfi) (C := R_O) (T := F_O) (N := 27) hx hb hw0 in_O hown hK hP 0 rfl rfl 7 (by decide) (hw0 (.fieldLink R_O 21 "TextKeeperModel" "first" "[I") wm_338) (fun _ h9 => h9) rfl d_O_isAsked_10 ?_
  refine lv_iload_n hx hb d_O_isAsked_13 rfl (lv_at hl 1 rfl) ?_
  refine va_iald hx hb hK hP 2 1 rfl rfl (vp_in_nI (by omega) (by decide)) d_O_isAsked_14 ?_
  refine lv_topi (fun x_2 ex_2 => ?_)
  refine lv_icmp_lt (tgt := 32) hx hb d_O_isAsked_15 (by decide) (fun c_3 => absurd c_3 (by rw [ex_2, nI_clamp (by omega), hff]; exact Int32.not_lt.mpr (nI_le ha1 (by omega)))) (fun c_3 => ?_)
  refine lv_iload_n hx hb d_O_isAsked_18 rfl (lv_at hl 2 rfl) ?_
  refine lv_aload_n hx hb d_O_isAsked_19 rfl (lv_at hl 0 rfl) ?_
  refine va_get (D := (dC, dI)) (ci := 7) (v := .ref hma) (C := R_O) (T := F_O) (N := 27) hx hb hw0 in_O hown hK hP 0 rfl rfl 8 (by decide) (hw0 (.fieldLink R_O 25 "TextKeeperModel" "many" "[I") wm_339) (fun _ h9 => h9) rfl d_O_isAsked_20 ?_
  refine lv_iload_n hx hb d_O_isAsked_23 rfl (lv_at hl 1 rfl) ?_
  refine va_iald hx hb hK hP 3 1 rfl rfl (vp_in_nI (by omega) (by decide)) d_O_isAsked_24 ?_
  refine lv_topi (fun x_4 ex_4 => ?_)
  refine lv_icmp_ge (tgt := 32) hx hb d_O_isAsked_25 (by decide) (fun c_5 => absurd c_5 (by rw [ex_4, nI_clamp (by omega), hfm]; exact nI_ge ha2 (by omega))) (fun c_5 => ?_)
  refine lv_iconst (v := 1) hx hb d_O_isAsked_28 (by decide) ?_
  refine lv_goto (tgt := 33) hx hb d_O_isAsked_29 (by decide) ?_
  exact W.zret (v := 1) (ty := .boolean) hx hb hr rfl (fun t ht hW => ⟨1, rfl, rfl, ht⟩) (fun q h => by cases h) d_O_isAsked_33
set_option maxHeartbeats 4000000 in
set_option maxRecDepth 100000 in
theorem o_asked_F (l : Launch) (dC : Nat → ClassId) (dI : Nat → Nat → Nat) (h0 : Nat) (i_thrown : Int32) (i_down : Int32) (i_lasts : Int32) (v_buffer : Value) (i_size : Int32) (v_lengths : Value) (v_authors : Value) (v_sums : Value) (v_row : Value) (v_made : Value) (i_madeSize : Int32) (v_base : Value) (i_baseSize : Int32) (v_text : Value) (i_textSize : Int32) (i_textSteps : Int32) (v_other : Value) (i_otherSize : Int32) (v_piece : Value) (i_pieceSize : Int32) (i_at : Int32) (i_end : Int32) (i_value : Int32) (nd : Nat) (hgo : Nat) (cZ : ClassId) (fg : Nat → Int32) (hfi : Nat) (cI : ClassId) (ff : Nat → Int32) (hma : Nat) (fm : Nat → Int32) (d9 : Nat) (df : Nat) (dn : Nat) (a1 : Int32) (hnd : nd ≤ 8) (hd9 : d9 < nd) (hgn : fg d9 = 0) (hff : ff d9 = nI df) (hfm : fm d9 = nI dn) (hdn : dn ≤ 64) (hna : a1 < nI df ∨ nI dn ≤ a1) : Met l y_O_isAsked k_O_isAsked ({ frames := 1, cells := 0, slots := 0, locals := 21 } : Room) (va_Pc [.ref h0, .int (nI d9), .int a1] (pc_R (dC, dI) [(h0, .inr (7, [.int i_thrown, .int i_down, .int i_lasts, v_buffer, .int i_size, .int (nI nd), .ref hgo, .ref hfi, .ref hma, v_lengths, v_authors, v_sums, v_row, v_made, .int i_madeSize, v_base, .int i_baseSize, v_text, .int i_textSize, .int i_textSteps, v_other, .int i_otherSize, v_piece, .int i_pieceSize, .int i_at, .int i_end, .int i_value])), (hgo, .inl (cZ, 8, .inl (fg))), (hfi, .inl (cI, 8, .inl (ff))), (hma, .inl (cI, 8, .inl (fm)))] [(cZ, .boolean), (cI, .int)])) (vp_Si (fun r => r = 0)) 0 0 (fun _ => False) := by
  refine Met.ofW (cc := prog_9_method_8_code) (maxL := 3) (ret := (some .boolean)) (by decide) rfl ?_
  intro p e s m args below meth c s₁ B hml hv
  obtain ⟨rfl, hP, hK, hN⟩ := hv
  have hx := B.exec
  have hb := B.bytes
  have hr := B.returns
  have hts := atoms_spec (ws := k_O_isAsked) B.pre
  have hw0 : ∀ w ∈ w0, w.before _ s = true := fun w h => hts w (List.mem_cons_of_mem _ h)
  have hown : s.vm.findClass R_O = some m.cls := findClass_of_methodNamed B.named
  have hlocks := B.notSynchronized
  have hP : va_P (dC, dI) vwCl [(h0, .inr (7, [.int i_thrown, .int i_down, .int i_lasts, v_buffer, .int i_size, .int (nI nd), .ref hgo, .ref hfi, .ref hma, v_lengths, v_authors, v_sums, v_row, v_made, .int i_madeSize, v_base, .int i_baseSize, v_text, .int i_textSize, .int i_textSteps, v_other, .int i_otherSize, v_piece, .int i_pieceSize, .int i_at, .int i_end, .int i_value])), (hgo, .inl (cZ, 8, .inl (fg))), (hfi, .inl (cI, 8, .inl (ff))), (hma, .inl (cI, 8, .inl (fm)))] s.heap := hP
  have hl := lv_entry ([.ref h0, .int (nI d9), .int a1]) (n := 3) (Nat.le_of_ble_eq_true rfl)
  rw [lg_entry_eq]
  generalize (lg_sl ([.ref h0, .int (nI d9), .int a1]) ++ List.replicate (3 - (lg_sl ([.ref h0, .int (nI d9), .int a1])).length) Slot.unset).toArray = ls at hl ⊢
  have hl : lv_has ls 3 [(0, .ref h0), (1, .int (nI d9)), (2, .int a1)] := hl
  refine lv_aload_n hx hb d_O_isAsked_0 rfl (lv_at hl 0 rfl) ?_
  refine lv_iload_n hx hb d_O_isAsked_1 rfl (lv_at hl 1 rfl) ?_
  have hPc := hP.sub (ws' := [(h0, .inr (7, [.int i_thrown, .int i_down, .int i_lasts, v_buffer, .int i_size, .int (nI nd), .ref hgo, .ref hfi, .ref hma, v_lengths, v_authors, v_sums, v_row, v_made, .int i_madeSize, v_base, .int i_baseSize, v_text, .int i_textSize, .int i_textSteps, v_other, .int i_otherSize, v_piece, .int i_pieceSize, .int i_at, .int i_end, .int i_value])), (hgo, .inl (cZ, 8, .inl ((fg))))]) [0, 1] rfl
  have hKc := hK.sub (tys' := [(cZ, .boolean)]) [0] rfl
  refine ps_i (va_runV (As := [.int (nI d9)]) (rest := []) ⟨hx, hb, hml, hown, hw0⟩ (o_isDoc_T l dC dI h0 i_thrown i_down i_lasts v_buffer i_size (.ref hfi) (.ref hma) v_lengths v_authors v_sums v_row v_made i_madeSize v_base i_baseSize v_text i_textSize i_textSteps v_other i_otherSize v_piece i_pieceSize i_at i_end i_value nd hgo cZ (fg) d9 (by first | assumption | decide | omega) (by first | assumption | decide | omega) (by first | assumption | decide | omega)) (cwV 1 hw0 (gd_Vm wm_334 wm_335 wm_336 wm_243 wm_337) rfl rfl rfl (by decide +kernel) ⟨by decide +kernel, by decide +kernel⟩) (prV_R hPc hKc hN (va_recv hKc hPc (ci := 7) (q0 := 0) rfl rfl)) rfl rfl hl.1 rfl (lv_room (Nat.le_of_ble_eq_true rfl)) d_O_isAsked_2 ⟨by decide +kernel, by decide +kernel⟩) (fun r_1 hr_1 => ?_)
  obtain rfl : r_1 = 1 := hr_1
  refine lv_if_eq (tgt := 32) hx hb d_O_isAsked_5 (by decide) (fun h9 => absurd h9 (by decide +kernel)) (fun _ => ?_)
  refine lv_iload_n hx hb d_O_isAsked_8 rfl (lv_at hl 2 rfl) ?_
  refine lv_aload_n hx hb d_O_isAsked_9 rfl (lv_at hl 0 rfl) ?_
  refine va_get (D := (dC, dI)) (ci := 7) (v := .ref hfi) (C := R_O) (T := F_O) (N := 27) hx hb hw0 in_O hown hK hP 0 rfl rfl 7 (by decide) (hw0 (.fieldLink R_O 21 "TextKeeperModel" "first" "[I") wm_338) (fun _ h9 => h9) rfl d_O_isAsked_10 ?_
  refine lv_iload_n hx hb d_O_isAsked_13 rfl (lv_at hl 1 rfl) ?_
  refine va_iald hx hb hK hP 2 1 rfl rfl (vp_in_nI (by omega) (by decide)) d_O_isAsked_14 ?_
  refine lv_topi (fun x_2 ex_2 => ?_)
  refine lv_icmp_lt (tgt := 32) hx hb d_O_isAsked_15 (by decide) (fun c_3 => ?_) (fun c_3 => ?_)
  · refine lv_iconst (v := 0) hx hb d_O_isAsked_32 (by decide) ?_
    exact W.zret (v := 0) (ty := .boolean) hx hb hr rfl (fun t ht hW => ⟨0, rfl, rfl, ht⟩) (fun q h => by cases h) d_O_isAsked_33
  · refine lv_iload_n hx hb d_O_isAsked_18 rfl (lv_at hl 2 rfl) ?_
    refine lv_aload_n hx hb d_O_isAsked_19 rfl (lv_at hl 0 rfl) ?_
    refine va_get (D := (dC, dI)) (ci := 7) (v := .ref hma) (C := R_O) (T := F_O) (N := 27) hx hb hw0 in_O hown hK hP 0 rfl rfl 8 (by decide) (hw0 (.fieldLink R_O 25 "TextKeeperModel" "many" "[I") wm_339) (fun _ h9 => h9) rfl d_O_isAsked_20 ?_
    refine lv_iload_n hx hb d_O_isAsked_23 rfl (lv_at hl 1 rfl) ?_
    refine va_iald hx hb hK hP 3 1 rfl rfl (vp_in_nI (by omega) (by decide)) d_O_isAsked_24 ?_
    refine lv_topi (fun x_4 ex_4 => ?_)
    refine lv_icmp_ge (tgt := 32) hx hb d_O_isAsked_25 (by decide) (fun c_5 => ?_) (fun c_5 => absurd hna (fun q => q.elim (fun z => c_3 (by rw [ex_2, nI_clamp (by omega), hff]; exact z)) (fun z => c_5 (by rw [ex_4, nI_clamp (by omega), hfm]; exact z))))
    refine lv_iconst (v := 0) hx hb d_O_isAsked_32 (by decide) ?_
    exact W.zret (v := 0) (ty := .boolean) hx hb hr rfl (fun t ht hW => ⟨0, rfl, rfl, ht⟩) (fun q h => by cases h) d_O_isAsked_33
set_option maxHeartbeats 4000000 in
set_option maxRecDepth 100000 in
theorem o_asked_N (l : Launch) (dC : Nat → ClassId) (dI : Nat → Nat → Nat) (h0 : Nat) (i_thrown : Int32) (i_down : Int32) (i_lasts : Int32) (v_buffer : Value) (i_size : Int32) (v_lengths : Value) (v_authors : Value) (v_sums : Value) (v_row : Value) (v_made : Value) (i_madeSize : Int32) (v_base : Value) (i_baseSize : Int32) (v_text : Value) (i_textSize : Int32) (i_textSteps : Int32) (v_other : Value) (i_otherSize : Int32) (v_piece : Value) (i_pieceSize : Int32) (i_at : Int32) (i_end : Int32) (i_value : Int32) (nd : Nat) (hgo : Nat) (cZ : ClassId) (fg : Nat → Int32) (hfi : Nat) (cI : ClassId) (ff : Nat → Int32) (hma : Nat) (fm : Nat → Int32) (a0 : Int32) (a1 : Int32) (hnd : nd ≤ 8) (hF : a0 < 0 ∨ nI nd ≤ a0 ∨ ¬ fg a0.toNatClampNeg = 0) : Met l y_O_isAsked k_O_isAsked ({ frames := 1, cells := 0, slots := 0, locals := 21 } : Room) (va_Pc [.ref h0, .int a0, .int a1] (pc_R (dC, dI) [(h0, .inr (7, [.int i_thrown, .int i_down, .int i_lasts, v_buffer, .int i_size, .int (nI nd), .ref hgo, .ref hfi, .ref hma, v_lengths, v_authors, v_sums, v_row, v_made, .int i_madeSize, v_base, .int i_baseSize, v_text, .int i_textSize, .int i_textSteps, v_other, .int i_otherSize, v_piece, .int i_pieceSize, .int i_at, .int i_end, .int i_value])), (hgo, .inl (cZ, 8, .inl (fg))), (hfi, .inl (cI, 8, .inl (ff))), (hma, .inl (cI, 8, .inl (fm)))] [(cZ, .boolean), (cI, .int)])) (vp_Si (fun r => r = 0)) 0 0 (fun _ => False) := by
  refine Met.ofW (cc := prog_9_method_8_code) (maxL := 3) (ret := (some .boolean)) (by decide) rfl ?_
  intro p e s m args below meth c s₁ B hml hv
  obtain ⟨rfl, hP, hK, hN⟩ := hv
  have hx := B.exec
  have hb := B.bytes
  have hr := B.returns
  have hts := atoms_spec (ws := k_O_isAsked) B.pre
  have hw0 : ∀ w ∈ w0, w.before _ s = true := fun w h => hts w (List.mem_cons_of_mem _ h)
  have hown : s.vm.findClass R_O = some m.cls := findClass_of_methodNamed B.named
  have hlocks := B.notSynchronized
  have hP : va_P (dC, dI) vwCl [(h0, .inr (7, [.int i_thrown, .int i_down, .int i_lasts, v_buffer, .int i_size, .int (nI nd), .ref hgo, .ref hfi, .ref hma, v_lengths, v_authors, v_sums, v_row, v_made, .int i_madeSize, v_base, .int i_baseSize, v_text, .int i_textSize, .int i_textSteps, v_other, .int i_otherSize, v_piece, .int i_pieceSize, .int i_at, .int i_end, .int i_value])), (hgo, .inl (cZ, 8, .inl (fg))), (hfi, .inl (cI, 8, .inl (ff))), (hma, .inl (cI, 8, .inl (fm)))] s.heap := hP
  have hl := lv_entry ([.ref h0, .int a0, .int a1]) (n := 3) (Nat.le_of_ble_eq_true rfl)
  rw [lg_entry_eq]
  generalize (lg_sl ([.ref h0, .int a0, .int a1]) ++ List.replicate (3 - (lg_sl ([.ref h0, .int a0, .int a1])).length) Slot.unset).toArray = ls at hl ⊢
  have hl : lv_has ls 3 [(0, .ref h0), (1, .int a0), (2, .int a1)] := hl
  refine lv_aload_n hx hb d_O_isAsked_0 rfl (lv_at hl 0 rfl) ?_
  refine lv_iload_n hx hb d_O_isAsked_1 rfl (lv_at hl 1 rfl) ?_
  have hPc := hP.sub (ws' := [(h0, .inr (7, [.int i_thrown, .int i_down, .int i_lasts, v_buffer, .int i_size, .int (nI nd), .ref hgo, .ref hfi, .ref hma, v_lengths, v_authors, v_sums, v_row, v_made, .int i_madeSize, v_base, .int i_baseSize, v_text, .int i_textSize, .int i_textSteps, v_other, .int i_otherSize, v_piece, .int i_pieceSize, .int i_at, .int i_end, .int i_value])), (hgo, .inl (cZ, 8, .inl ((fg))))]) [0, 1] rfl
  have hKc := hK.sub (tys' := [(cZ, .boolean)]) [0] rfl
  refine ps_i (va_runV (As := [.int a0]) (rest := []) ⟨hx, hb, hml, hown, hw0⟩ (o_isDoc_F l dC dI h0 i_thrown i_down i_lasts v_buffer i_size (.ref hfi) (.ref hma) v_lengths v_authors v_sums v_row v_made i_madeSize v_base i_baseSize v_text i_textSize i_textSteps v_other i_otherSize v_piece i_pieceSize i_at i_end i_value nd hgo cZ (fg) a0 (by first | assumption | decide | omega) (by first | assumption | decide | omega)) (cwV 1 hw0 (gd_Vm wm_334 wm_335 wm_336 wm_243 wm_337) rfl rfl rfl (by decide +kernel) ⟨by decide +kernel, by decide +kernel⟩) (prV_R hPc hKc hN (va_recv hKc hPc (ci := 7) (q0 := 0) rfl rfl)) rfl rfl hl.1 rfl (lv_room (Nat.le_of_ble_eq_true rfl)) d_O_isAsked_2 ⟨by decide +kernel, by decide +kernel⟩) (fun r_1 hr_1 => ?_)
  obtain rfl : r_1 = 0 := hr_1
  refine lv_if_eq (tgt := 32) hx hb d_O_isAsked_5 (by decide) (fun _ => ?_) (fun h9 => absurd h9 (by decide +kernel))
  refine lv_iconst (v := 0) hx hb d_O_isAsked_32 (by decide) ?_
  exact W.zret (v := 0) (ty := .boolean) hx hb hr rfl (fun t ht hW => ⟨0, rfl, rfl, ht⟩) (fun q h => by cases h) d_O_isAsked_33
set_option maxHeartbeats 4000000 in
set_option maxRecDepth 100000 in
theorem o_kept_T (l : Launch) (dC : Nat → ClassId) (dI : Nat → Nat → Nat) (h0 : Nat) (i_thrown : Int32) (i_down : Int32) (i_lasts : Int32) (v_buffer : Value) (i_size : Int32) (v_first : Value) (v_many : Value) (v_authors : Value) (v_sums : Value) (v_row : Value) (v_made : Value) (i_madeSize : Int32) (v_base : Value) (i_baseSize : Int32) (v_text : Value) (i_textSize : Int32) (i_textSteps : Int32) (v_other : Value) (i_otherSize : Int32) (v_piece : Value) (i_pieceSize : Int32) (i_at : Int32) (i_end : Int32) (i_value : Int32) (nd : Nat) (hgo : Nat) (cZ : ClassId) (fg : Nat → Int32) (hln : Nat) (cL : ClassId) (fl : Nat → Int32) (ln : Nat → Option Nat) (d9 : Nat) (r9 : Nat) (v9 : Nat) (hnd : nd ≤ 8) (hfl : ∀ j, j < 512 → fl j = vI (ln j)) (hbd : ∀ j v, j < 512 → ln j = some v → v ≤ 16384) (hd9 : d9 < nd) (hgn : fg d9 = 0) (hr9 : r9 < 64) (hln9 : ln (64 * d9 + r9) = some v9) : Met l y_O_kept k_O_kept ({ frames := 1, cells := 0, slots := 0, locals := 21 } : Room) (va_Pc [.ref h0, .int (nI d9), .int (nI r9)] (pc_R (dC, dI) [(h0, .inr (7, [.int i_thrown, .int i_down, .int i_lasts, v_buffer, .int i_size, .int (nI nd), .ref hgo, v_first, v_many, .ref hln, v_authors, v_sums, v_row, v_made, .int i_madeSize, v_base, .int i_baseSize, v_text, .int i_textSize, .int i_textSteps, v_other, .int i_otherSize, v_piece, .int i_pieceSize, .int i_at, .int i_end, .int i_value])), (hgo, .inl (cZ, 8, .inl (fg))), (hln, .inl (cL, 512, .inl (fl)))] [(cZ, .boolean), (cL, .short)])) (vp_Si (fun r => r = nI (64 * d9 + r9))) 0 0 (fun _ => False) := by
  refine Met.ofW (cc := prog_9_method_9_code) (maxL := 3) (ret := (some .int)) (by decide) rfl ?_
  intro p e s m args below meth c s₁ B hml hv
  obtain ⟨rfl, hP, hK, hN⟩ := hv
  have hx := B.exec
  have hb := B.bytes
  have hr := B.returns
  have hts := atoms_spec (ws := k_O_kept) B.pre
  have hw0 : ∀ w ∈ w0, w.before _ s = true := fun w h => hts w (List.mem_cons_of_mem _ h)
  have hown : s.vm.findClass R_O = some m.cls := findClass_of_methodNamed B.named
  have hlocks := B.notSynchronized
  have hP : va_P (dC, dI) vwCl [(h0, .inr (7, [.int i_thrown, .int i_down, .int i_lasts, v_buffer, .int i_size, .int (nI nd), .ref hgo, v_first, v_many, .ref hln, v_authors, v_sums, v_row, v_made, .int i_madeSize, v_base, .int i_baseSize, v_text, .int i_textSize, .int i_textSteps, v_other, .int i_otherSize, v_piece, .int i_pieceSize, .int i_at, .int i_end, .int i_value])), (hgo, .inl (cZ, 8, .inl (fg))), (hln, .inl (cL, 512, .inl (fl)))] s.heap := hP
  have hl := lv_entry ([.ref h0, .int (nI d9), .int (nI r9)]) (n := 3) (Nat.le_of_ble_eq_true rfl)
  rw [lg_entry_eq]
  generalize (lg_sl ([.ref h0, .int (nI d9), .int (nI r9)]) ++ List.replicate (3 - (lg_sl ([.ref h0, .int (nI d9), .int (nI r9)])).length) Slot.unset).toArray = ls at hl ⊢
  have hl : lv_has ls 3 [(0, .ref h0), (1, .int (nI d9)), (2, .int (nI r9))] := hl
  refine lv_aload_n hx hb d_O_kept_0 rfl (lv_at hl 0 rfl) ?_
  refine lv_iload_n hx hb d_O_kept_1 rfl (lv_at hl 1 rfl) ?_
  have hPc := hP.sub (ws' := [(h0, .inr (7, [.int i_thrown, .int i_down, .int i_lasts, v_buffer, .int i_size, .int (nI nd), .ref hgo, v_first, v_many, .ref hln, v_authors, v_sums, v_row, v_made, .int i_madeSize, v_base, .int i_baseSize, v_text, .int i_textSize, .int i_textSteps, v_other, .int i_otherSize, v_piece, .int i_pieceSize, .int i_at, .int i_end, .int i_value])), (hgo, .inl (cZ, 8, .inl ((fg))))]) [0, 1] rfl
  have hKc := hK.sub (tys' := [(cZ, .boolean)]) [0] rfl
  refine ps_i (va_runV (As := [.int (nI d9)]) (rest := []) ⟨hx, hb, hml, hown, hw0⟩ (o_isDoc_T l dC dI h0 i_thrown i_down i_lasts v_buffer i_size v_first v_many (.ref hln) v_authors v_sums v_row v_made i_madeSize v_base i_baseSize v_text i_textSize i_textSteps v_other i_otherSize v_piece i_pieceSize i_at i_end i_value nd hgo cZ (fg) d9 (by first | assumption | decide | omega) (by first | assumption | decide | omega) (by first | assumption | decide | omega)) (cwV 1 hw0 (gd_Vm wm_334 wm_335 wm_336 wm_243 wm_337) rfl rfl rfl (by decide +kernel) ⟨by decide +kernel, by decide +kernel⟩) (prV_R hPc hKc hN (va_recv hKc hPc (ci := 7) (q0 := 0) rfl rfl)) rfl rfl hl.1 rfl (lv_room (Nat.le_of_ble_eq_true rfl)) d_O_kept_2 ⟨by decide +kernel, by decide +kernel⟩) (fun r_1 hr_1 => ?_)
  obtain rfl : r_1 = 1 := hr_1
  refine lv_if_eq (tgt := 42) hx hb d_O_kept_5 (by decide) (fun h9 => absurd h9 (by decide +kernel)) (fun _ => ?_)
  refine lv_iload_n hx hb d_O_kept_8 rfl (lv_at hl 2 rfl) ?_
  refine lv_if_lt (tgt := 42) hx hb d_O_kept_9 (by decide) (fun c_2 => absurd c_2 (nI_pos (by omega))) (fun c_2 => ?_)
  refine lv_iload_n hx hb d_O_kept_12 rfl (lv_at hl 2 rfl) ?_
  refine lv_bipush (v := 64) hx hb d_O_kept_13 (by decide +kernel) ?_
  refine lv_icmp_ge (tgt := 42) hx hb d_O_kept_15 (by decide) (fun c_3 => absurd c_3 (nI_ge hr9 (by decide))) (fun c_3 => ?_)
  refine lv_aload_n hx hb d_O_kept_18 rfl (lv_at hl 0 rfl) ?_
  refine va_get (D := (dC, dI)) (ci := 7) (v := .ref hln) (C := R_O) (T := F_O) (N := 27) hx hb hw0 in_O hown hK hP 0 rfl rfl 9 (by decide) (hw0 (.fieldLink R_O 28 "TextKeeperModel" "lengths" "[S") wm_289) (fun _ h9 => h9) rfl d_O_kept_19 ?_
  refine lv_bipush (v := 64) hx hb d_O_kept_22 (by decide +kernel) ?_
  refine lv_iload_n hx hb d_O_kept_24 rfl (lv_at hl 1 rfl) ?_
  refine lv_imul hx hb d_O_kept_25 ?_
  refine lv_topi (fun x_4 ex_4 => ?_)
  obtain rfl : x_4 = (nI (64 * d9)) := by rw [ex_4]; exact (show nI 64 * nI d9 = nI (64 * d9) from pk_mul _ _)
  clear ex_4
  refine lv_iload_n hx hb d_O_kept_26 rfl (lv_at hl 2 rfl) ?_
  refine lv_iadd hx hb d_O_kept_27 ?_
  refine lv_topi (fun x_5 ex_5 => ?_)
  obtain rfl : x_5 = (nI (64 * d9 + r9)) := by rw [ex_5]; exact nI_add _ _
  clear ex_5
  refine va_sald hx hb hK hP 2 1 rfl rfl (vp_in_nI (by omega) (by decide)) d_O_kept_28 ?_
  refine lv_topi (fun x_6 ex_6 => ?_)
  refine lv_iconst (v := (-1)) hx hb d_O_kept_29 (by decide) ?_
  refine lv_icmp_eq (tgt := 42) hx hb d_O_kept_30 (by decide) (fun c_7 => absurd c_7 (by rw [ex_6, nI_clamp (by omega), hfl _ (by omega), hln9]; exact nI_m1 (by have := hbd _ _ (by omega) hln9; omega))) (fun c_7 => ?_)
  refine lv_bipush (v := 64) hx hb d_O_kept_33 (by decide +kernel) ?_
  refine lv_iload_n hx hb d_O_kept_35 rfl (lv_at hl 1 rfl) ?_
  refine lv_imul hx hb d_O_kept_36 ?_
  refine lv_topi (fun x_8 ex_8 => ?_)
  obtain rfl : x_8 = (nI (64 * d9)) := by rw [ex_8]; exact (show nI 64 * nI d9 = nI (64 * d9) from pk_mul _ _)
  clear ex_8
  refine lv_iload_n hx hb d_O_kept_37 rfl (lv_at hl 2 rfl) ?_
  refine lv_iadd hx hb d_O_kept_38 ?_
  refine lv_topi (fun x_9 ex_9 => ?_)
  obtain rfl : x_9 = (nI (64 * d9 + r9)) := by rw [ex_9]; exact nI_add _ _
  clear ex_9
  refine lv_goto (tgt := 43) hx hb d_O_kept_39 (by decide) ?_
  exact W.iret (v := (nI (64 * d9 + r9))) hx hb hr (fun t ht hW => ⟨(nI (64 * d9 + r9)), rfl, rfl, ht⟩) (fun q h => by cases h) d_O_kept_43
set_option maxHeartbeats 4000000 in
set_option maxRecDepth 100000 in
theorem o_kept_N (l : Launch) (dC : Nat → ClassId) (dI : Nat → Nat → Nat) (h0 : Nat) (i_thrown : Int32) (i_down : Int32) (i_lasts : Int32) (v_buffer : Value) (i_size : Int32) (v_first : Value) (v_many : Value) (v_authors : Value) (v_sums : Value) (v_row : Value) (v_made : Value) (i_madeSize : Int32) (v_base : Value) (i_baseSize : Int32) (v_text : Value) (i_textSize : Int32) (i_textSteps : Int32) (v_other : Value) (i_otherSize : Int32) (v_piece : Value) (i_pieceSize : Int32) (i_at : Int32) (i_end : Int32) (i_value : Int32) (nd : Nat) (hgo : Nat) (cZ : ClassId) (fg : Nat → Int32) (hln : Nat) (cL : ClassId) (fl : Nat → Int32) (a0 : Int32) (a1 : Int32) (hnd : nd ≤ 8) (hF : a0 < 0 ∨ nI nd ≤ a0 ∨ ¬ fg a0.toNatClampNeg = 0) : Met l y_O_kept k_O_kept ({ frames := 1, cells := 0, slots := 0, locals := 21 } : Room) (va_Pc [.ref h0, .int a0, .int a1] (pc_R (dC, dI) [(h0, .inr (7, [.int i_thrown, .int i_down, .int i_lasts, v_buffer, .int i_size, .int (nI nd), .ref hgo, v_first, v_many, .ref hln, v_authors, v_sums, v_row, v_made, .int i_madeSize, v_base, .int i_baseSize, v_text, .int i_textSize, .int i_textSteps, v_other, .int i_otherSize, v_piece, .int i_pieceSize, .int i_at, .int i_end, .int i_value])), (hgo, .inl (cZ, 8, .inl (fg))), (hln, .inl (cL, 512, .inl (fl)))] [(cZ, .boolean), (cL, .short)])) (vp_Si (fun r => r = (-1))) 0 0 (fun _ => False) := by
  refine Met.ofW (cc := prog_9_method_9_code) (maxL := 3) (ret := (some .int)) (by decide) rfl ?_
  intro p e s m args below meth c s₁ B hml hv
  obtain ⟨rfl, hP, hK, hN⟩ := hv
  have hx := B.exec
  have hb := B.bytes
  have hr := B.returns
  have hts := atoms_spec (ws := k_O_kept) B.pre
  have hw0 : ∀ w ∈ w0, w.before _ s = true := fun w h => hts w (List.mem_cons_of_mem _ h)
  have hown : s.vm.findClass R_O = some m.cls := findClass_of_methodNamed B.named
  have hlocks := B.notSynchronized
  have hP : va_P (dC, dI) vwCl [(h0, .inr (7, [.int i_thrown, .int i_down, .int i_lasts, v_buffer, .int i_size, .int (nI nd), .ref hgo, v_first, v_many, .ref hln, v_authors, v_sums, v_row, v_made, .int i_madeSize, v_base, .int i_baseSize, v_text, .int i_textSize, .int i_textSteps, v_other, .int i_otherSize, v_piece, .int i_pieceSize, .int i_at, .int i_end, .int i_value])), (hgo, .inl (cZ, 8, .inl (fg))), (hln, .inl (cL, 512, .inl (fl)))] s.heap := hP
  have hl := lv_entry ([.ref h0, .int a0, .int a1]) (n := 3) (Nat.le_of_ble_eq_true rfl)
  rw [lg_entry_eq]
  generalize (lg_sl ([.ref h0, .int a0, .int a1]) ++ List.replicate (3 - (lg_sl ([.ref h0, .int a0, .int a1])).length) Slot.unset).toArray = ls at hl ⊢
  have hl : lv_has ls 3 [(0, .ref h0), (1, .int a0), (2, .int a1)] := hl
  refine lv_aload_n hx hb d_O_kept_0 rfl (lv_at hl 0 rfl) ?_
  refine lv_iload_n hx hb d_O_kept_1 rfl (lv_at hl 1 rfl) ?_
  have hPc := hP.sub (ws' := [(h0, .inr (7, [.int i_thrown, .int i_down, .int i_lasts, v_buffer, .int i_size, .int (nI nd), .ref hgo, v_first, v_many, .ref hln, v_authors, v_sums, v_row, v_made, .int i_madeSize, v_base, .int i_baseSize, v_text, .int i_textSize, .int i_textSteps, v_other, .int i_otherSize, v_piece, .int i_pieceSize, .int i_at, .int i_end, .int i_value])), (hgo, .inl (cZ, 8, .inl ((fg))))]) [0, 1] rfl
  have hKc := hK.sub (tys' := [(cZ, .boolean)]) [0] rfl
  refine ps_i (va_runV (As := [.int a0]) (rest := []) ⟨hx, hb, hml, hown, hw0⟩ (o_isDoc_F l dC dI h0 i_thrown i_down i_lasts v_buffer i_size v_first v_many (.ref hln) v_authors v_sums v_row v_made i_madeSize v_base i_baseSize v_text i_textSize i_textSteps v_other i_otherSize v_piece i_pieceSize i_at i_end i_value nd hgo cZ (fg) a0 (by first | assumption | decide | omega) (by first | assumption | decide | omega)) (cwV 1 hw0 (gd_Vm wm_334 wm_335 wm_336 wm_243 wm_337) rfl rfl rfl (by decide +kernel) ⟨by decide +kernel, by decide +kernel⟩) (prV_R hPc hKc hN (va_recv hKc hPc (ci := 7) (q0 := 0) rfl rfl)) rfl rfl hl.1 rfl (lv_room (Nat.le_of_ble_eq_true rfl)) d_O_kept_2 ⟨by decide +kernel, by decide +kernel⟩) (fun r_1 hr_1 => ?_)
  obtain rfl : r_1 = 0 := hr_1
  refine lv_if_eq (tgt := 42) hx hb d_O_kept_5 (by decide) (fun _ => ?_) (fun h9 => absurd h9 (by decide +kernel))
  refine lv_iconst (v := (-1)) hx hb d_O_kept_42 (by decide) ?_
  exact W.iret (v := (-1)) hx hb hr (fun t ht hW => ⟨(-1), rfl, rfl, ht⟩) (fun q h => by cases h) d_O_kept_43
set_option maxHeartbeats 4000000 in
set_option maxRecDepth 100000 in
theorem o_kept_F (l : Launch) (dC : Nat → ClassId) (dI : Nat → Nat → Nat) (h0 : Nat) (i_thrown : Int32) (i_down : Int32) (i_lasts : Int32) (v_buffer : Value) (i_size : Int32) (v_first : Value) (v_many : Value) (v_authors : Value) (v_sums : Value) (v_row : Value) (v_made : Value) (i_madeSize : Int32) (v_base : Value) (i_baseSize : Int32) (v_text : Value) (i_textSize : Int32) (i_textSteps : Int32) (v_other : Value) (i_otherSize : Int32) (v_piece : Value) (i_pieceSize : Int32) (i_at : Int32) (i_end : Int32) (i_value : Int32) (nd : Nat) (hgo : Nat) (cZ : ClassId) (fg : Nat → Int32) (hln : Nat) (cL : ClassId) (fl : Nat → Int32) (ln : Nat → Option Nat) (d9 : Nat) (a1 : Int32) (hnd : nd ≤ 8) (hfl : ∀ j, j < 512 → fl j = vI (ln j)) (hbd : ∀ j v, j < 512 → ln j = some v → v ≤ 16384) (hd9 : d9 < nd) (hgn : fg d9 = 0) (hF : a1 < 0 ∨ nI 64 ≤ a1) : Met l y_O_kept k_O_kept ({ frames := 1, cells := 0, slots := 0, locals := 21 } : Room) (va_Pc [.ref h0, .int (nI d9), .int a1] (pc_R (dC, dI) [(h0, .inr (7, [.int i_thrown, .int i_down, .int i_lasts, v_buffer, .int i_size, .int (nI nd), .ref hgo, v_first, v_many, .ref hln, v_authors, v_sums, v_row, v_made, .int i_madeSize, v_base, .int i_baseSize, v_text, .int i_textSize, .int i_textSteps, v_other, .int i_otherSize, v_piece, .int i_pieceSize, .int i_at, .int i_end, .int i_value])), (hgo, .inl (cZ, 8, .inl (fg))), (hln, .inl (cL, 512, .inl (fl)))] [(cZ, .boolean), (cL, .short)])) (vp_Si (fun r => r = (-1))) 0 0 (fun _ => False) := by
  refine Met.ofW (cc := prog_9_method_9_code) (maxL := 3) (ret := (some .int)) (by decide) rfl ?_
  intro p e s m args below meth c s₁ B hml hv
  obtain ⟨rfl, hP, hK, hN⟩ := hv
  have hx := B.exec
  have hb := B.bytes
  have hr := B.returns
  have hts := atoms_spec (ws := k_O_kept) B.pre
  have hw0 : ∀ w ∈ w0, w.before _ s = true := fun w h => hts w (List.mem_cons_of_mem _ h)
  have hown : s.vm.findClass R_O = some m.cls := findClass_of_methodNamed B.named
  have hlocks := B.notSynchronized
  have hP : va_P (dC, dI) vwCl [(h0, .inr (7, [.int i_thrown, .int i_down, .int i_lasts, v_buffer, .int i_size, .int (nI nd), .ref hgo, v_first, v_many, .ref hln, v_authors, v_sums, v_row, v_made, .int i_madeSize, v_base, .int i_baseSize, v_text, .int i_textSize, .int i_textSteps, v_other, .int i_otherSize, v_piece, .int i_pieceSize, .int i_at, .int i_end, .int i_value])), (hgo, .inl (cZ, 8, .inl (fg))), (hln, .inl (cL, 512, .inl (fl)))] s.heap := hP
  have hl := lv_entry ([.ref h0, .int (nI d9), .int a1]) (n := 3) (Nat.le_of_ble_eq_true rfl)
  rw [lg_entry_eq]
  generalize (lg_sl ([.ref h0, .int (nI d9), .int a1]) ++ List.replicate (3 - (lg_sl ([.ref h0, .int (nI d9), .int a1])).length) Slot.unset).toArray = ls at hl ⊢
  have hl : lv_has ls 3 [(0, .ref h0), (1, .int (nI d9)), (2, .int a1)] := hl
  refine lv_aload_n hx hb d_O_kept_0 rfl (lv_at hl 0 rfl) ?_
  refine lv_iload_n hx hb d_O_kept_1 rfl (lv_at hl 1 rfl) ?_
  have hPc := hP.sub (ws' := [(h0, .inr (7, [.int i_thrown, .int i_down, .int i_lasts, v_buffer, .int i_size, .int (nI nd), .ref hgo, v_first, v_many, .ref hln, v_authors, v_sums, v_row, v_made, .int i_madeSize, v_base, .int i_baseSize, v_text, .int i_textSize, .int i_textSteps, v_other, .int i_otherSize, v_piece, .int i_pieceSize, .int i_at, .int i_end, .int i_value])), (hgo, .inl (cZ, 8, .inl ((fg))))]) [0, 1] rfl
  have hKc := hK.sub (tys' := [(cZ, .boolean)]) [0] rfl
  refine ps_i (va_runV (As := [.int (nI d9)]) (rest := []) ⟨hx, hb, hml, hown, hw0⟩ (o_isDoc_T l dC dI h0 i_thrown i_down i_lasts v_buffer i_size v_first v_many (.ref hln) v_authors v_sums v_row v_made i_madeSize v_base i_baseSize v_text i_textSize i_textSteps v_other i_otherSize v_piece i_pieceSize i_at i_end i_value nd hgo cZ (fg) d9 (by first | assumption | decide | omega) (by first | assumption | decide | omega) (by first | assumption | decide | omega)) (cwV 1 hw0 (gd_Vm wm_334 wm_335 wm_336 wm_243 wm_337) rfl rfl rfl (by decide +kernel) ⟨by decide +kernel, by decide +kernel⟩) (prV_R hPc hKc hN (va_recv hKc hPc (ci := 7) (q0 := 0) rfl rfl)) rfl rfl hl.1 rfl (lv_room (Nat.le_of_ble_eq_true rfl)) d_O_kept_2 ⟨by decide +kernel, by decide +kernel⟩) (fun r_1 hr_1 => ?_)
  obtain rfl : r_1 = 1 := hr_1
  refine lv_if_eq (tgt := 42) hx hb d_O_kept_5 (by decide) (fun h9 => absurd h9 (by decide +kernel)) (fun _ => ?_)
  refine lv_iload_n hx hb d_O_kept_8 rfl (lv_at hl 2 rfl) ?_
  refine lv_if_lt (tgt := 42) hx hb d_O_kept_9 (by decide) (fun c_2 => ?_) (fun c_2 => ?_)
  · refine lv_iconst (v := (-1)) hx hb d_O_kept_42 (by decide) ?_
    exact W.iret (v := (-1)) hx hb hr (fun t ht hW => ⟨(-1), rfl, rfl, ht⟩) (fun q h => by cases h) d_O_kept_43
  · refine lv_iload_n hx hb d_O_kept_12 rfl (lv_at hl 2 rfl) ?_
    refine lv_bipush (v := 64) hx hb d_O_kept_13 (by decide +kernel) ?_
    refine lv_icmp_ge (tgt := 42) hx hb d_O_kept_15 (by decide) (fun c_3 => ?_) (fun c_3 => absurd hF (fun q => q.elim c_2 c_3))
    refine lv_iconst (v := (-1)) hx hb d_O_kept_42 (by decide) ?_
    exact W.iret (v := (-1)) hx hb hr (fun t ht hW => ⟨(-1), rfl, rfl, ht⟩) (fun q h => by cases h) d_O_kept_43
set_option maxHeartbeats 4000000 in
set_option maxRecDepth 100000 in
theorem o_kept_G (l : Launch) (dC : Nat → ClassId) (dI : Nat → Nat → Nat) (h0 : Nat) (i_thrown : Int32) (i_down : Int32) (i_lasts : Int32) (v_buffer : Value) (i_size : Int32) (v_first : Value) (v_many : Value) (v_authors : Value) (v_sums : Value) (v_row : Value) (v_made : Value) (i_madeSize : Int32) (v_base : Value) (i_baseSize : Int32) (v_text : Value) (i_textSize : Int32) (i_textSteps : Int32) (v_other : Value) (i_otherSize : Int32) (v_piece : Value) (i_pieceSize : Int32) (i_at : Int32) (i_end : Int32) (i_value : Int32) (nd : Nat) (hgo : Nat) (cZ : ClassId) (fg : Nat → Int32) (hln : Nat) (cL : ClassId) (fl : Nat → Int32) (ln : Nat → Option Nat) (d9 : Nat) (r9 : Nat) (hnd : nd ≤ 8) (hfl : ∀ j, j < 512 → fl j = vI (ln j)) (hbd : ∀ j v, j < 512 → ln j = some v → v ≤ 16384) (hd9 : d9 < nd) (hgn : fg d9 = 0) (hr9 : r9 < 64) (hln9 : ln (64 * d9 + r9) = none) : Met l y_O_kept k_O_kept ({ frames := 1, cells := 0, slots := 0, locals := 21 } : Room) (va_Pc [.ref h0, .int (nI d9), .int (nI r9)] (pc_R (dC, dI) [(h0, .inr (7, [.int i_thrown, .int i_down, .int i_lasts, v_buffer, .int i_size, .int (nI nd), .ref hgo, v_first, v_many, .ref hln, v_authors, v_sums, v_row, v_made, .int i_madeSize, v_base, .int i_baseSize, v_text, .int i_textSize, .int i_textSteps, v_other, .int i_otherSize, v_piece, .int i_pieceSize, .int i_at, .int i_end, .int i_value])), (hgo, .inl (cZ, 8, .inl (fg))), (hln, .inl (cL, 512, .inl (fl)))] [(cZ, .boolean), (cL, .short)])) (vp_Si (fun r => r = (-1))) 0 0 (fun _ => False) := by
  refine Met.ofW (cc := prog_9_method_9_code) (maxL := 3) (ret := (some .int)) (by decide) rfl ?_
  intro p e s m args below meth c s₁ B hml hv
  obtain ⟨rfl, hP, hK, hN⟩ := hv
  have hx := B.exec
  have hb := B.bytes
  have hr := B.returns
  have hts := atoms_spec (ws := k_O_kept) B.pre
  have hw0 : ∀ w ∈ w0, w.before _ s = true := fun w h => hts w (List.mem_cons_of_mem _ h)
  have hown : s.vm.findClass R_O = some m.cls := findClass_of_methodNamed B.named
  have hlocks := B.notSynchronized
  have hP : va_P (dC, dI) vwCl [(h0, .inr (7, [.int i_thrown, .int i_down, .int i_lasts, v_buffer, .int i_size, .int (nI nd), .ref hgo, v_first, v_many, .ref hln, v_authors, v_sums, v_row, v_made, .int i_madeSize, v_base, .int i_baseSize, v_text, .int i_textSize, .int i_textSteps, v_other, .int i_otherSize, v_piece, .int i_pieceSize, .int i_at, .int i_end, .int i_value])), (hgo, .inl (cZ, 8, .inl (fg))), (hln, .inl (cL, 512, .inl (fl)))] s.heap := hP
  have hl := lv_entry ([.ref h0, .int (nI d9), .int (nI r9)]) (n := 3) (Nat.le_of_ble_eq_true rfl)
  rw [lg_entry_eq]
  generalize (lg_sl ([.ref h0, .int (nI d9), .int (nI r9)]) ++ List.replicate (3 - (lg_sl ([.ref h0, .int (nI d9), .int (nI r9)])).length) Slot.unset).toArray = ls at hl ⊢
  have hl : lv_has ls 3 [(0, .ref h0), (1, .int (nI d9)), (2, .int (nI r9))] := hl
  refine lv_aload_n hx hb d_O_kept_0 rfl (lv_at hl 0 rfl) ?_
  refine lv_iload_n hx hb d_O_kept_1 rfl (lv_at hl 1 rfl) ?_
  have hPc := hP.sub (ws' := [(h0, .inr (7, [.int i_thrown, .int i_down, .int i_lasts, v_buffer, .int i_size, .int (nI nd), .ref hgo, v_first, v_many, .ref hln, v_authors, v_sums, v_row, v_made, .int i_madeSize, v_base, .int i_baseSize, v_text, .int i_textSize, .int i_textSteps, v_other, .int i_otherSize, v_piece, .int i_pieceSize, .int i_at, .int i_end, .int i_value])), (hgo, .inl (cZ, 8, .inl ((fg))))]) [0, 1] rfl
  have hKc := hK.sub (tys' := [(cZ, .boolean)]) [0] rfl
  refine ps_i (va_runV (As := [.int (nI d9)]) (rest := []) ⟨hx, hb, hml, hown, hw0⟩ (o_isDoc_T l dC dI h0 i_thrown i_down i_lasts v_buffer i_size v_first v_many (.ref hln) v_authors v_sums v_row v_made i_madeSize v_base i_baseSize v_text i_textSize i_textSteps v_other i_otherSize v_piece i_pieceSize i_at i_end i_value nd hgo cZ (fg) d9 (by first | assumption | decide | omega) (by first | assumption | decide | omega) (by first | assumption | decide | omega)) (cwV 1 hw0 (gd_Vm wm_334 wm_335 wm_336 wm_243 wm_337) rfl rfl rfl (by decide +kernel) ⟨by decide +kernel, by decide +kernel⟩) (prV_R hPc hKc hN (va_recv hKc hPc (ci := 7) (q0 := 0) rfl rfl)) rfl rfl hl.1 rfl (lv_room (Nat.le_of_ble_eq_true rfl)) d_O_kept_2 ⟨by decide +kernel, by decide +kernel⟩) (fun r_1 hr_1 => ?_)
  obtain rfl : r_1 = 1 := hr_1
  refine lv_if_eq (tgt := 42) hx hb d_O_kept_5 (by decide) (fun h9 => absurd h9 (by decide +kernel)) (fun _ => ?_)
  refine lv_iload_n hx hb d_O_kept_8 rfl (lv_at hl 2 rfl) ?_
  refine lv_if_lt (tgt := 42) hx hb d_O_kept_9 (by decide) (fun c_2 => absurd c_2 (nI_pos (by omega))) (fun c_2 => ?_)
  refine lv_iload_n hx hb d_O_kept_12 rfl (lv_at hl 2 rfl) ?_
  refine lv_bipush (v := 64) hx hb d_O_kept_13 (by decide +kernel) ?_
  refine lv_icmp_ge (tgt := 42) hx hb d_O_kept_15 (by decide) (fun c_3 => absurd c_3 (nI_ge hr9 (by decide))) (fun c_3 => ?_)
  refine lv_aload_n hx hb d_O_kept_18 rfl (lv_at hl 0 rfl) ?_
  refine va_get (D := (dC, dI)) (ci := 7) (v := .ref hln) (C := R_O) (T := F_O) (N := 27) hx hb hw0 in_O hown hK hP 0 rfl rfl 9 (by decide) (hw0 (.fieldLink R_O 28 "TextKeeperModel" "lengths" "[S") wm_289) (fun _ h9 => h9) rfl d_O_kept_19 ?_
  refine lv_bipush (v := 64) hx hb d_O_kept_22 (by decide +kernel) ?_
  refine lv_iload_n hx hb d_O_kept_24 rfl (lv_at hl 1 rfl) ?_
  refine lv_imul hx hb d_O_kept_25 ?_
  refine lv_topi (fun x_4 ex_4 => ?_)
  obtain rfl : x_4 = (nI (64 * d9)) := by rw [ex_4]; exact (show nI 64 * nI d9 = nI (64 * d9) from pk_mul _ _)
  clear ex_4
  refine lv_iload_n hx hb d_O_kept_26 rfl (lv_at hl 2 rfl) ?_
  refine lv_iadd hx hb d_O_kept_27 ?_
  refine lv_topi (fun x_5 ex_5 => ?_)
  obtain rfl : x_5 = (nI (64 * d9 + r9)) := by rw [ex_5]; exact nI_add _ _
  clear ex_5
  refine va_sald hx hb hK hP 2 1 rfl rfl (vp_in_nI (by omega) (by decide)) d_O_kept_28 ?_
  refine lv_topi (fun x_6 ex_6 => ?_)
  refine lv_iconst (v := (-1)) hx hb d_O_kept_29 (by decide) ?_
  refine lv_icmp_eq (tgt := 42) hx hb d_O_kept_30 (by decide) (fun c_7 => ?_) (fun c_7 => absurd (by rw [ex_6, nI_clamp (by omega), hfl _ (by omega), hln9]; rfl) c_7)
  refine lv_iconst (v := (-1)) hx hb d_O_kept_42 (by decide) ?_
  exact W.iret (v := (-1)) hx hb hr (fun t ht hW => ⟨(-1), rfl, rfl, ht⟩) (fun q h => by cases h) d_O_kept_43
set_option maxHeartbeats 4000000 in
set_option maxRecDepth 100000 in
theorem o_blocks (l : Launch) (dC : Nat → ClassId) (dI : Nat → Nat → Nat) (n : Nat) (hn : n < 2 ^ 20) : Met l y_O_blocks k_O_blocks ({ frames := 0, cells := 0, slots := 0, locals := 0 } : Room) (va_Pc [.int (nI n)] (pc_R (dC, dI) [] [])) (vp_Si (fun r => r = nI (blk n))) 0 0 (fun _ => False) := by
  refine Met.ofW (cc := prog_9_method_11_code) (maxL := 1) (ret := (some .int)) (by decide) rfl ?_
  intro p e s m args below meth c s₁ B hml hv
  obtain ⟨rfl, hP, hK, hN⟩ := hv
  have hx := B.exec
  have hb := B.bytes
  have hr := B.returns
  have hts := atoms_spec (ws := k_O_blocks) B.pre
  have hw0 : ∀ w ∈ w0, w.before _ s = true := fun w h => hts w (List.mem_cons_of_mem _ h)
  have hown : s.vm.findClass R_O = some m.cls := findClass_of_methodNamed B.named
  have hlocks := B.notSynchronized
  have hP : va_P (dC, dI) vwCl [] s.heap := hP
  have hl := lv_entry ([.int (nI n)]) (n := 1) (Nat.le_of_ble_eq_true rfl)
  rw [lg_entry_eq]
  generalize (lg_sl ([.int (nI n)]) ++ List.replicate (1 - (lg_sl ([.int (nI n)])).length) Slot.unset).toArray = ls at hl ⊢
  have hl : lv_has ls 1 [(0, .int (nI n))] := hl
  refine lv_iload_n hx hb d_O_blocks_0 rfl (lv_at hl 0 rfl) ?_
  refine lv_bipush (v := 31) hx hb d_O_blocks_1 (by decide +kernel) ?_
  refine lv_iadd hx hb d_O_blocks_3 ?_
  refine lv_topi (fun x_1 ex_1 => ?_)
  obtain rfl : x_1 = (nI (n + 31)) := by rw [ex_1]; exact nI_add n 31
  clear ex_1
  refine lv_bipush (v := 32) hx hb d_O_blocks_4 (by decide +kernel) ?_
  refine lv_idiv hx hb d_O_blocks_6 (by decide +kernel) ?_
  refine lv_topi (fun x_2 ex_2 => ?_)
  obtain rfl : x_2 = (nI (blk n)) := by rw [ex_2]; exact (show nI (n + 31) / nI 32 = nI ((n + 31) / 32) from pk_div (by omega) (by decide) (by decide))
  clear ex_2
  exact W.iret (v := (nI (blk n))) hx hb hr (fun t ht hW => ⟨(nI (blk n)), rfl, rfl, ht⟩) (fun q h => by cases h) d_O_blocks_7
set_option maxHeartbeats 4000000 in
set_option maxRecDepth 100000 in
theorem lo_free {p : Program} {l : Launch} {e : Env} {s : State} {m : MethodId} {args : Array Value} {below : List Frame} {meth : Method} {c : Code} {dC : Nat → ClassId} {dI : Nat → Nat → Nat} {Q : State → Prop} {H : Heap} {locs : List Loc} (h0 : Nat) (i_thrown : Int32) (i_down : Int32) (i_lasts : Int32) (v_buffer : Value) (i_size : Int32) (i_documents : Int32) (v_gone : Value) (v_first : Value) (v_many : Value) (v_authors : Value) (v_sums : Value) (v_row : Value) (v_made : Value) (i_madeSize : Int32) (v_base : Value) (i_baseSize : Int32) (v_text : Value) (i_textSize : Int32) (i_textSteps : Int32) (v_other : Value) (i_otherSize : Int32) (v_piece : Value) (i_pieceSize : Int32) (i_at : Int32) (i_end : Int32) (i_value : Int32) (hln : Nat) (cL : ClassId) (fl : Nat → Int32) (ln : Nat → Option Nat) (hfl : ∀ j, j < 512 → fl j = vI (ln j)) (hbd : ∀ j v, j < 512 → ln j = some v → v ≤ 16384)
    (hx : p.tables.exec = Jvm.exec) (hb : c.code = prog_9_method_12_code) (hml : c.maxLocals = 3) (hown : s.vm.findClass R_O = some m.cls) (hw0 : ∀ w ∈ w0, w.before args s = true) (hN : nw_ok s) (hK : va_K (dC, dI) vwCl [(cL, .short)] s) (hP : va_P (dC, dI) vwCl [(h0, .inr (7, [.int i_thrown, .int i_down, .int i_lasts, v_buffer, .int i_size, .int i_documents, v_gone, v_first, v_many, .ref hln, v_authors, v_sums, v_row, v_made, .int i_madeSize, v_base, .int i_baseSize, v_text, .int i_textSize, .int i_textSteps, v_other, .int i_otherSize, v_piece, .int i_pieceSize, .int i_at, .int i_end, .int i_value])), (hln, .inl (cL, 512, .inl (fl)))] H)
    (kk : ∀ ls : Array Slot, lv_has ls 3 [(2, .int (nI 512)), (1, .int (512 - nI (frb ln 512))), (0, .ref h0)] → W p l e ({ frames := 1, cells := 0, slots := 0, locals := 20 } : Room) s m args below meth c H locs 0 0 Q (F0 m 44 ls [])) :
    ∀ (n j : Nat), j ≤ 512 → 512 < j + n → ∀ ls : Array Slot, lv_has ls 3 [(2, .int (nI j)), (1, .int (512 - nI (frb ln j))), (0, .ref h0)] → W p l e ({ frames := 1, cells := 0, slots := 0, locals := 20 } : Room) s m args below meth c H locs 0 0 Q (F0 m 6 ls []) := by
  intro n
  induction n with
  | zero => intro j  h1 h2; exact absurd h2 (by omega)
  | succ n ih =>
    intro j  hj hn  ls hl
    refine lv_iload_n hx hb d_O_free_6 rfl (lv_at hl 0 rfl) ?_
    refine lv_sipush (v := 512) hx hb d_O_free_7 (by decide +kernel) ?_
    refine lv_icmp_ge (tgt := 44) hx hb d_O_free_10 (by decide) (fun c_1 => ?_) (fun c_1 => ?_)
    · obtain rfl : j = 512 := x_geN (by omega) hj c_1
      exact kk ls (lv_sub hl [0, 1, 2] rfl)
    · have hlt : j < 512 := x_ltN (by omega) hj c_1
      refine lv_iload_n hx hb d_O_free_13 rfl (lv_at hl 1 rfl) ?_
      refine lv_aload_n hx hb d_O_free_14 rfl (lv_at hl 2 rfl) ?_
      refine va_get (D := (dC, dI)) (ci := 7) (v := .ref hln) (C := R_O) (T := F_O) (N := 27) hx hb hw0 in_O hown hK hP 0 rfl rfl 9 (by decide) (hw0 (.fieldLink R_O 28 "TextKeeperModel" "lengths" "[S") wm_289) (fun _ h9 => h9) rfl d_O_free_15 ?_
      refine lv_iload_n hx hb d_O_free_18 rfl (lv_at hl 0 rfl) ?_
      refine va_sald hx hb hK hP 1 0 rfl rfl (vp_in_nI (by omega) (by decide)) d_O_free_19 ?_
      refine lv_topi (fun x_2 ex_2 => ?_)
      refine lv_if_le (tgt := 35) hx hb d_O_free_20 (by decide) (fun c_3 => ?_) (fun c_3 => ?_)
      · refine lv_iconst (v := 0) hx hb d_O_free_35 (by decide) ?_
        refine lv_isub hx hb d_O_free_36 ?_
        refine lv_topi (fun x_4 ex_4 => ?_)
        obtain rfl : x_4 = (512 - nI (frb ln (j + 1))) := by rw [ex_4]; exact fr_0 (by omega) (hfl j (by omega)) (fun v => hbd j v (by omega)) ex_2 c_3
        clear ex_4
        refine lv_istore_n (lv' := [(1, .int (512 - nI (frb ln (j + 1)))), (2, .int (nI j)), (0, .ref h0)]) hx hb d_O_free_37 rfl hl (by decide) rfl (fun ls hl => ?_)
        refine lv_iinc (v := nI (j + 1)) (lv' := [(2, .int (nI (j + 1))), (1, .int (512 - nI (frb ln (j + 1)))), (0, .ref h0)]) hx hb d_O_free_38 hl (k := 1) rfl (nI_1 j) (by decide) rfl (fun ls hl => ?_)
        refine lv_goto (tgt := 6) hx hb d_O_free_41 (by decide) ?_
        exact ih (j + 1) hlt (by omega) ls (lv_sub hl [0, 1, 2] rfl)
      · refine lv_aload_n hx hb d_O_free_23 rfl (lv_at hl 2 rfl) ?_
        refine va_get (D := (dC, dI)) (ci := 7) (v := .ref hln) (C := R_O) (T := F_O) (N := 27) hx hb hw0 in_O hown hK hP 0 rfl rfl 9 (by decide) (hw0 (.fieldLink R_O 28 "TextKeeperModel" "lengths" "[S") wm_289) (fun _ h9 => h9) rfl d_O_free_24 ?_
        refine lv_iload_n hx hb d_O_free_27 rfl (lv_at hl 0 rfl) ?_
        refine va_sald hx hb hK hP 1 0 rfl rfl (vp_in_nI (by omega) (by decide)) d_O_free_28 ?_
        refine lv_topi (fun x_5 ex_5 => ?_)
        obtain ⟨v9, hv9, hv8⟩ := fr_some (by omega) (hfl j (by omega)) ex_2 c_3
        obtain rfl : x_5 = nI v9 := by rw [ex_5, nI_clamp (by omega), hfl j (by omega), hv9]; rfl
        have hb8 := hbd j v9 (by omega) hv9
        have hPc := hP.sub (ws' := []) [] rfl
        have hKc := hK.sub (tys' := []) [] rfl
        refine ps_i (va_runS (As := [.int (nI v9)]) (rest := [.int (512 - nI (frb ln j))]) ⟨hx, hb, hml, hown, hw0⟩ (o_blocks l dC dI v9 (by first | assumption | decide | omega)) (va_cwS 1 hw0 (gd_S 340 341 243 342 rfl rfl rfl rfl) rfl rfl rfl (by decide +kernel) ⟨by decide +kernel, by decide +kernel⟩) (prS_R hPc hKc hN) rfl rfl hl.1 rfl (lv_room (Nat.le_of_ble_eq_true rfl)) d_O_free_29 ⟨by decide +kernel, by decide +kernel⟩) (fun r_6 hr_6 => ?_)
        obtain rfl : r_6 = (nI (blk v9)) := hr_6
        refine lv_goto (tgt := 36) hx hb d_O_free_32 (by decide) ?_
        refine lv_isub hx hb d_O_free_36 ?_
        refine lv_topi (fun x_7 ex_7 => ?_)
        obtain rfl : x_7 = (512 - nI (frb ln (j + 1))) := by rw [ex_7]; exact fr_1 hv9
        clear ex_7
        refine lv_istore_n (lv' := [(1, .int (512 - nI (frb ln (j + 1)))), (2, .int (nI j)), (0, .ref h0)]) hx hb d_O_free_37 rfl hl (by decide) rfl (fun ls hl => ?_)
        refine lv_iinc (v := nI (j + 1)) (lv' := [(2, .int (nI (j + 1))), (1, .int (512 - nI (frb ln (j + 1)))), (0, .ref h0)]) hx hb d_O_free_38 hl (k := 1) rfl (nI_1 j) (by decide) rfl (fun ls hl => ?_)
        refine lv_goto (tgt := 6) hx hb d_O_free_41 (by decide) ?_
        exact ih (j + 1) hlt (by omega) ls (lv_sub hl [0, 1, 2] rfl)
set_option maxHeartbeats 4000000 in
set_option maxRecDepth 100000 in
theorem o_free (l : Launch) (dC : Nat → ClassId) (dI : Nat → Nat → Nat) (h0 : Nat) (i_thrown : Int32) (i_down : Int32) (i_lasts : Int32) (v_buffer : Value) (i_size : Int32) (i_documents : Int32) (v_gone : Value) (v_first : Value) (v_many : Value) (v_authors : Value) (v_sums : Value) (v_row : Value) (v_made : Value) (i_madeSize : Int32) (v_base : Value) (i_baseSize : Int32) (v_text : Value) (i_textSize : Int32) (i_textSteps : Int32) (v_other : Value) (i_otherSize : Int32) (v_piece : Value) (i_pieceSize : Int32) (i_at : Int32) (i_end : Int32) (i_value : Int32) (hln : Nat) (cL : ClassId) (fl : Nat → Int32) (ln : Nat → Option Nat) (hfl : ∀ j, j < 512 → fl j = vI (ln j)) (hbd : ∀ j v, j < 512 → ln j = some v → v ≤ 16384) : Met l y_O_free k_O_free ({ frames := 1, cells := 0, slots := 0, locals := 20 } : Room) (va_Pc [.ref h0] (pc_R (dC, dI) [(h0, .inr (7, [.int i_thrown, .int i_down, .int i_lasts, v_buffer, .int i_size, .int i_documents, v_gone, v_first, v_many, .ref hln, v_authors, v_sums, v_row, v_made, .int i_madeSize, v_base, .int i_baseSize, v_text, .int i_textSize, .int i_textSteps, v_other, .int i_otherSize, v_piece, .int i_pieceSize, .int i_at, .int i_end, .int i_value])), (hln, .inl (cL, 512, .inl (fl)))] [(cL, .short)])) (vp_Si (fun r => r = 512 - nI (frb ln 512))) 0 0 (fun _ => False) := by
  refine Met.ofW (cc := prog_9_method_12_code) (maxL := 3) (ret := (some .int)) (by decide) rfl ?_
  intro p e s m args below meth c s₁ B hml hv
  obtain ⟨rfl, hP, hK, hN⟩ := hv
  have hx := B.exec
  have hb := B.bytes
  have hr := B.returns
  have hts := atoms_spec (ws := k_O_free) B.pre
  have hw0 : ∀ w ∈ w0, w.before _ s = true := fun w h => hts w (List.mem_cons_of_mem _ h)
  have hown : s.vm.findClass R_O = some m.cls := findClass_of_methodNamed B.named
  have hlocks := B.notSynchronized
  have hP : va_P (dC, dI) vwCl [(h0, .inr (7, [.int i_thrown, .int i_down, .int i_lasts, v_buffer, .int i_size, .int i_documents, v_gone, v_first, v_many, .ref hln, v_authors, v_sums, v_row, v_made, .int i_madeSize, v_base, .int i_baseSize, v_text, .int i_textSize, .int i_textSteps, v_other, .int i_otherSize, v_piece, .int i_pieceSize, .int i_at, .int i_end, .int i_value])), (hln, .inl (cL, 512, .inl (fl)))] s.heap := hP
  have hl := lv_entry ([.ref h0]) (n := 3) (Nat.le_of_ble_eq_true rfl)
  rw [lg_entry_eq]
  generalize (lg_sl ([.ref h0]) ++ List.replicate (3 - (lg_sl ([.ref h0])).length) Slot.unset).toArray = ls at hl ⊢
  have hl : lv_has ls 3 [(0, .ref h0)] := hl
  refine lv_sipush (v := 512) hx hb d_O_free_0 (by decide +kernel) ?_
  refine lv_istore_n (lv' := [(1, .int 512), (0, .ref h0)]) hx hb d_O_free_3 rfl hl (by decide) rfl (fun ls hl => ?_)
  refine lv_iconst (v := 0) hx hb d_O_free_4 (by decide) ?_
  refine lv_istore_n (lv' := [(2, .int 0), (1, .int 512), (0, .ref h0)]) hx hb d_O_free_5 rfl hl (by decide) rfl (fun ls hl => ?_)
  refine lo_free h0 i_thrown i_down i_lasts v_buffer i_size i_documents v_gone v_first v_many v_authors v_sums v_row v_made i_madeSize v_base i_baseSize v_text i_textSize i_textSteps v_other i_otherSize v_piece i_pieceSize i_at i_end i_value hln cL fl ln hfl hbd hx hb hml hown hw0 hN hK hP (fun ls hl => ?_) 513 0 (by omega) (by omega) ls (by rw [fr_z]; exact (lv_sub hl [0, 1, 2] rfl))
  refine lv_iload_n hx hb d_O_free_44 rfl (lv_at hl 1 rfl) ?_
  exact W.iret (v := (512 - nI (frb ln 512))) hx hb hr (fun t ht hW => ⟨(512 - nI (frb ln 512)), rfl, rfl, ht⟩) (fun q h => by cases h) d_O_free_45
set_option maxHeartbeats 4000000 in
set_option maxRecDepth 100000 in
theorem lo_und {p : Program} {l : Launch} {e : Env} {s : State} {m : MethodId} {args : Array Value} {below : List Frame} {meth : Method} {c : Code} {dC : Nat → ClassId} {dI : Nat → Nat → Nat} {Q : State → Prop} {H : Heap} {locs : List Loc} (r9 : Nat) (of : Nat) (hr9 : r9 < 64) (hof : of < 64)
    (hx : p.tables.exec = Jvm.exec) (hb : c.code = prog_9_method_14_code) (hml : c.maxLocals = 3) (hown : s.vm.findClass R_O = some m.cls) (hw0 : ∀ w ∈ w0, w.before args s = true) (hN : nw_ok s) (hK : va_K (dC, dI) vwCl [] s) (hP : va_P (dC, dI) vwCl [] H)
    (kk : ∀ ls : Array Slot, lv_has ls 3 [(2, .int (nI (wk of r9))), (0, .int (nI r9)), (1, .int (nI of))] → W p l e ({ frames := 0, cells := 0, slots := 0, locals := 0 } : Room) s m args below meth c H locs 0 0 Q (F0 m 16 ls [])) :
    ∀ (n j : Nat) (k9 : Nat), j ≤ 64 → 64 < j + n → (k9 < 64) → (wk k9 r9 = wk of r9) → (k9 + j ≤ 64) → ∀ ls : Array Slot, lv_has ls 3 [(2, .int (nI k9)), (0, .int (nI r9)), (1, .int (nI of))] → W p l e ({ frames := 0, cells := 0, slots := 0, locals := 0 } : Room) s m args below meth c H locs 0 0 Q (F0 m 2 ls []) := by
  intro n
  induction n with
  | zero => intro j k9 h1 h2; exact absurd h2 (by omega)
  | succ n ih =>
    intro j k9 hj hn hf0 hf1 hf2 ls hl
    refine lv_iload_n hx hb d_O_isUnder_2 rfl (lv_at hl 0 rfl) ?_
    refine lv_iload_n hx hb d_O_isUnder_3 rfl (lv_at hl 1 rfl) ?_
    refine lv_icmp_le (tgt := 16) hx hb d_O_isUnder_4 (by decide) (fun c_1 => ?_) (fun c_1 => ?_)
    · have hle9 : k9 ≤ r9 := (nI_leI (by omega) (by omega)).mp c_1
      have hw9 : k9 = wk of r9 := by rw [← hf1]; exact (wk_le hle9).symm
      exact kk ls (by rw [← hw9]; exact (lv_sub hl [0, 1, 2] rfl))
    · have hlt : r9 < k9 := (by rcases Nat.lt_or_ge r9 k9 with z | z; exact z; exact absurd (nI_le z (by omega)) c_1)
      refine lv_iload_n hx hb d_O_isUnder_7 rfl (lv_at hl 0 rfl) ?_
      refine lv_iload_n hx hb d_O_isUnder_8 rfl (lv_at hl 0 rfl) ?_
      refine lv_iconst (v := 1) hx hb d_O_isUnder_9 (by decide) ?_
      refine lv_isub hx hb d_O_isUnder_10 ?_
      refine lv_topi (fun x_2 ex_2 => ?_)
      refine lv_iand hx hb d_O_isUnder_11 ?_
      refine lv_topi (fun x_3 ex_3 => ?_)
      obtain rfl : x_3 = (nI (bs k9)) := by rw [ex_3, ex_2]; exact (bs_nI k9 (by omega)).1
      clear ex_3
      refine lv_istore_n (lv' := [(2, .int (nI (bs k9))), (0, .int (nI r9)), (1, .int (nI of))]) hx hb d_O_isUnder_12 rfl hl (by decide) rfl (fun ls hl => ?_)
      refine lv_goto (tgt := 2) hx hb d_O_isUnder_13 (by decide) ?_
      exact ih (j + 1) (bs k9) (by omega) (by omega) (by have := (bs_nI k9 (by omega)).2; omega) (by rw [← hf1]; exact (wkU hlt (by omega)).symm) (by have := (bs_nI k9 (by omega)).2; omega) ls (lv_sub hl [0, 1, 2] rfl)
set_option maxHeartbeats 4000000 in
set_option maxRecDepth 100000 in
theorem o_isUnder (l : Launch) (dC : Nat → ClassId) (dI : Nat → Nat → Nat) (r9 : Nat) (of : Nat) (hr9 : r9 < 64) (hof : of < 64) : Met l y_O_isUnder k_O_isUnder ({ frames := 0, cells := 0, slots := 0, locals := 0 } : Room) (va_Pc [.int (nI r9), .int (nI of)] (pc_R (dC, dI) [] [])) (vp_Si (fun r => r = bI (decide (wk of r9 = r9)))) 0 0 (fun _ => False) := by
  refine Met.ofW (cc := prog_9_method_14_code) (maxL := 3) (ret := (some .boolean)) (by decide) rfl ?_
  intro p e s m args below meth c s₁ B hml hv
  obtain ⟨rfl, hP, hK, hN⟩ := hv
  have hx := B.exec
  have hb := B.bytes
  have hr := B.returns
  have hts := atoms_spec (ws := k_O_isUnder) B.pre
  have hw0 : ∀ w ∈ w0, w.before _ s = true := fun w h => hts w (List.mem_cons_of_mem _ h)
  have hown : s.vm.findClass R_O = some m.cls := findClass_of_methodNamed B.named
  have hlocks := B.notSynchronized
  have hP : va_P (dC, dI) vwCl [] s.heap := hP
  have hl := lv_entry ([.int (nI r9), .int (nI of)]) (n := 3) (Nat.le_of_ble_eq_true rfl)
  rw [lg_entry_eq]
  generalize (lg_sl ([.int (nI r9), .int (nI of)]) ++ List.replicate (3 - (lg_sl ([.int (nI r9), .int (nI of)])).length) Slot.unset).toArray = ls at hl ⊢
  have hl : lv_has ls 3 [(0, .int (nI r9)), (1, .int (nI of))] := hl
  have hwl := wk_lt of r9 hof
  refine lv_iload_n hx hb d_O_isUnder_0 rfl (lv_at hl 1 rfl) ?_
  refine lv_istore_n (lv' := [(2, .int (nI of)), (0, .int (nI r9)), (1, .int (nI of))]) hx hb d_O_isUnder_1 rfl hl (by decide) rfl (fun ls hl => ?_)
  refine lo_und r9 of hr9 hof hx hb hml hown hw0 hN hK hP (fun ls hl => ?_) 65 0 of (by omega) (by omega) hof rfl (by omega) ls (lv_sub hl [0, 1, 2] rfl)
  refine lv_iload_n hx hb d_O_isUnder_16 rfl (lv_at hl 0 rfl) ?_
  refine lv_iload_n hx hb d_O_isUnder_17 rfl (lv_at hl 1 rfl) ?_
  refine lv_icmp_ne (tgt := 25) hx hb d_O_isUnder_18 (by decide) (fun c_1 => ?_) (fun c_1 => ?_)
  · refine lv_iconst (v := 0) hx hb d_O_isUnder_25 (by decide) ?_
    exact W.zret (v := 0) (ty := .boolean) hx hb hr rfl (fun t ht hW => ⟨0, rfl, (by rw [bI, decide_eq_false (fun q => c_1 (by rw [q]))]; rfl), ht⟩) (fun q h => by cases h) d_O_isUnder_26
  · refine lv_iconst (v := 1) hx hb d_O_isUnder_21 (by decide) ?_
    refine lv_goto (tgt := 26) hx hb d_O_isUnder_22 (by decide) ?_
    exact W.zret (v := 1) (ty := .boolean) hx hb hr rfl (fun t ht hW => ⟨1, rfl, (by rw [bI, decide_eq_true ((nI_eq (by omega) (by omega)).mp c_1)]; rfl), ht⟩) (fun q h => by cases h) d_O_isUnder_26
end
section
set_option maxHeartbeats 4000000 in
set_option maxRecDepth 100000 in
theorem o_makes_N (l : Launch) (dC : Nat → ClassId) (dI : Nat → Nat → Nat) (sz : Nat) (h0 : Nat) (i_thrown : Int32) (i_down : Int32) (i_lasts : Int32) (v_buffer : Value) (i_size : Int32) (i_documents : Int32) (v_gone : Value) (v_first : Value) (v_many : Value) (v_authors : Value) (v_sums : Value) (bz : Int32) (v_text : Value) (i_textSize : Int32) (i_textSteps : Int32) (v_other : Value) (i_otherSize : Int32) (v_piece : Value) (i_pieceSize : Int32) (at0 : Int32) (en0 : Int32) (vv0 : Int32) (hmade : Nat) (hbase : Nat) (cB : ClassId) (k : Nat) (f : Nat → Int32) (fb : Nat → Int32) (hrow : Nat) (fr : Nat → Int32) (hln : Nat) (cL : ClassId) (fl : Nat → Int32) (pq : Nat → Option (List Int32)) (T : List Int32) (q9 : Nat) (htt : tx T k f) (hk : k ≤ 256) (hfl : ∀ j, j < 512 → fl j = vI (lnq pq j)) (hrw : rowOk pq fr) (hq9 : q9 < 512) (hpN : pq q9 = none) : Met l y_O_makes k_O_makes ({ frames := 0, cells := 0, slots := 0, locals := 0 } : Room) (va_Pc [.ref h0, .int (nI q9)] (pc_E (dC, dI) [(h0, .inr (7, [.int i_thrown, .int i_down, .int i_lasts, v_buffer, .int i_size, .int i_documents, v_gone, v_first, v_many, .ref hln, v_authors, v_sums, .ref hrow, .ref hmade, .int (nI k), .ref hbase, .int bz, v_text, .int i_textSize, .int i_textSteps, v_other, .int i_otherSize, v_piece, .int i_pieceSize, .int at0, .int en0, .int vv0])), (hmade, .inl (cB, 256, .inl (f))), (hbase, .inl (cB, 256, .inl (fb))), (hrow, .inl (cB, 16384, .inl (fr))), (hln, .inl (cL, 512, .inl (fl)))] [(cB, .byte), (cL, .short)] sz)) (va_Qi (fun (r : Int32) (_ : Unit) => r = 0) (fun (_ : Unit) t => at_E (dC, dI) (va_A [(h0, .inr (7, [.int i_thrown, .int i_down, .int i_lasts, v_buffer, .int i_size, .int i_documents, v_gone, v_first, v_many, .ref hln, v_authors, v_sums, .ref hrow, .ref hmade, .int (nI k), .ref hbase, .int bz, v_text, .int i_textSize, .int i_textSteps, v_other, .int i_otherSize, v_piece, .int i_pieceSize, .int at0, .int en0, .int vv0])), (hmade, .inl (cB, 256, .inl (f))), (hbase, .inl (cB, 256, .inl (fb))), (hrow, .inl (cB, 16384, .inl (fr))), (hln, .inl (cL, 512, .inl (fl)))] sz) [(h0, .inr (7, [.int i_thrown, .int i_down, .int i_lasts, v_buffer, .int i_size, .int i_documents, v_gone, v_first, v_many, .ref hln, v_authors, v_sums, .ref hrow, .ref hbase, .int (nI 0), .ref hmade, .int (nI k), v_text, .int i_textSize, .int i_textSteps, v_other, .int i_otherSize, v_piece, .int i_pieceSize, .int at0, .int en0, .int vv0])), (hbase, .inl (cB, 256, .inl (fb))), (hmade, .inl (cB, 256, .inl (f))), (hrow, .inl (cB, 16384, .inl (fr))), (hln, .inl (cL, 512, .inl (fl)))] [(cB, .byte), (cL, .short)] t) (va_A [(h0, .inr (7, [.int i_thrown, .int i_down, .int i_lasts, v_buffer, .int i_size, .int i_documents, v_gone, v_first, v_many, .ref hln, v_authors, v_sums, .ref hrow, .ref hmade, .int (nI k), .ref hbase, .int bz, v_text, .int i_textSize, .int i_textSteps, v_other, .int i_otherSize, v_piece, .int i_pieceSize, .int at0, .int en0, .int vv0])), (hmade, .inl (cB, 256, .inl (f))), (hbase, .inl (cB, 256, .inl (fb))), (hrow, .inl (cB, 16384, .inl (fr))), (hln, .inl (cL, 512, .inl (fl)))] sz)) 0 0 (va_A [(h0, .inr (7, [.int i_thrown, .int i_down, .int i_lasts, v_buffer, .int i_size, .int i_documents, v_gone, v_first, v_many, .ref hln, v_authors, v_sums, .ref hrow, .ref hmade, .int (nI k), .ref hbase, .int bz, v_text, .int i_textSize, .int i_textSteps, v_other, .int i_otherSize, v_piece, .int i_pieceSize, .int at0, .int en0, .int vv0])), (hmade, .inl (cB, 256, .inl (f))), (hbase, .inl (cB, 256, .inl (fb))), (hrow, .inl (cB, 16384, .inl (fr))), (hln, .inl (cL, 512, .inl (fl)))] sz) := by
  refine Met.ofW (cc := prog_9_method_19_code) (maxL := 3) (ret := (some .boolean)) (by decide) rfl ?_
  intro p e s m args below meth c s₁ B hml hv
  obtain ⟨rfl, hsz, hP, hK, hD0, hN⟩ := hv
  have hx := B.exec
  have hb := B.bytes
  have hr := B.returns
  have hts := atoms_spec (ws := k_O_makes) B.pre
  have hw0 : ∀ w ∈ w0, w.before _ s = true := fun w h => hts w (List.mem_cons_of_mem _ h)
  have hown : s.vm.findClass R_O = some m.cls := findClass_of_methodNamed B.named
  have hlocks := B.notSynchronized
  subst hsz
  have hD := hD0.self (sz := s.heap.size)
  generalize hAe : va_A [(h0, .inr (7, [.int i_thrown, .int i_down, .int i_lasts, v_buffer, .int i_size, .int i_documents, v_gone, v_first, v_many, .ref hln, v_authors, v_sums, .ref hrow, .ref hmade, .int (nI k), .ref hbase, .int bz, v_text, .int i_textSize, .int i_textSteps, v_other, .int i_otherSize, v_piece, .int i_pieceSize, .int at0, .int en0, .int vv0])), (hmade, .inl (cB, 256, .inl (f))), (hbase, .inl (cB, 256, .inl (fb))), (hrow, .inl (cB, 16384, .inl (fr))), (hln, .inl (cL, 512, .inl (fl)))] s.heap.size = A at hD ⊢
  have hA : ∀ q : Nat, s.heap.size ≤ q → A q := fun q h => by rw [← hAe]; exact Or.inr h
  have hS : va_S A s.heap s.heap [] := va_S.rf
  have hP : va_P (dC, dI) vwCl [(h0, .inr (7, [.int i_thrown, .int i_down, .int i_lasts, v_buffer, .int i_size, .int i_documents, v_gone, v_first, v_many, .ref hln, v_authors, v_sums, .ref hrow, .ref hmade, .int (nI k), .ref hbase, .int bz, v_text, .int i_textSize, .int i_textSteps, v_other, .int i_otherSize, v_piece, .int i_pieceSize, .int at0, .int en0, .int vv0])), (hmade, .inl (cB, 256, .inl (f))), (hbase, .inl (cB, 256, .inl (fb))), (hrow, .inl (cB, 16384, .inl (fr))), (hln, .inl (cL, 512, .inl (fl)))] s.heap := hP
  have hl := lv_entry ([.ref h0, .int (nI q9)]) (n := 3) (Nat.le_of_ble_eq_true rfl)
  rw [lg_entry_eq]
  generalize (lg_sl ([.ref h0, .int (nI q9)]) ++ List.replicate (3 - (lg_sl ([.ref h0, .int (nI q9)])).length) Slot.unset).toArray = ls at hl ⊢
  have hl : lv_has ls 3 [(0, .ref h0), (1, .int (nI q9))] := hl
  refine lv_aload_n hx hb d_O_makes_0 rfl (lv_at hl 0 rfl) ?_
  refine va_get (D := (dC, dI)) (ci := 7) (v := .ref hbase) (C := R_O) (T := F_O) (N := 27) hx hb hw0 in_O hown hK hP 0 rfl rfl 15 (by decide) (hw0 (.fieldLink R_O 44 "TextKeeperModel" "base" "[B") wm_283) (fun _ h9 => h9) rfl d_O_makes_1 ?_
  refine lv_astore_n (lv' := [(2, .ref hbase), (0, .ref h0), (1, .int (nI q9))]) hx hb d_O_makes_4 rfl hl (by decide) rfl (fun ls hl => ?_)
  refine lv_aload_n hx hb d_O_makes_5 rfl (lv_at hl 1 rfl) ?_
  refine lv_aload_n hx hb d_O_makes_6 rfl (lv_at hl 1 rfl) ?_
  refine va_get (D := (dC, dI)) (ci := 7) (v := .ref hmade) (C := R_O) (T := F_O) (N := 27) hx hb hw0 in_O hown hK hP 0 rfl rfl 13 (by decide) (hw0 (.fieldLink R_O 41 "TextKeeperModel" "made" "[B") wm_248) (fun _ h9 => h9) rfl d_O_makes_7 ?_
  refine va_put (D := (dC, dI)) (ci := 7) (v := .ref hmade) (ty := (.array .byte)) (C := R_O) (T := F_O) (N := 27) hx hb hw0 in_O ft_O tk_O nk_O hown hK hP hD hS 0 rfl rfl 15 (by decide) (hw0 (.fieldLink R_O 44 "TextKeeperModel" "base" "[B") wm_283) (fun _ h9 => h9) rfl (by decide +kernel) rfl rfl (Nat.le_of_ble_eq_true rfl) d_O_makes_10 (fun H locs hP hD hS => ?_)
  replace hP : va_P (dC, dI) vwCl [(h0, .inr (7, [.int i_thrown, .int i_down, .int i_lasts, v_buffer, .int i_size, .int i_documents, v_gone, v_first, v_many, .ref hln, v_authors, v_sums, .ref hrow, .ref hmade, .int (nI k), .ref hmade, .int bz, v_text, .int i_textSize, .int i_textSteps, v_other, .int i_otherSize, v_piece, .int i_pieceSize, .int at0, .int en0, .int vv0])), (hmade, .inl (cB, 256, .inl (f))), (hbase, .inl (cB, 256, .inl (fb))), (hrow, .inl (cB, 16384, .inl (fr))), (hln, .inl (cL, 512, .inl (fl)))] H := hP
  replace hD : va_D A [(h0, .inr (7, [.int i_thrown, .int i_down, .int i_lasts, v_buffer, .int i_size, .int i_documents, v_gone, v_first, v_many, .ref hln, v_authors, v_sums, .ref hrow, .ref hmade, .int (nI k), .ref hmade, .int bz, v_text, .int i_textSize, .int i_textSteps, v_other, .int i_otherSize, v_piece, .int i_pieceSize, .int at0, .int en0, .int vv0])), (hmade, .inl (cB, 256, .inl (f))), (hbase, .inl (cB, 256, .inl (fb))), (hrow, .inl (cB, 16384, .inl (fr))), (hln, .inl (cL, 512, .inl (fl)))] := hD
  refine lv_aload_n hx hb d_O_makes_13 rfl (lv_at hl 1 rfl) ?_
  refine lv_aload_n hx hb d_O_makes_14 rfl (lv_at hl 1 rfl) ?_
  refine va_get (D := (dC, dI)) (ci := 7) (v := .int (nI k)) (C := R_O) (T := F_O) (N := 27) hx hb hw0 in_O hown hK hP 0 rfl rfl 14 (by decide) (hw0 (.fieldLink R_O 113 "TextKeeperModel" "madeSize" "I") wm_246) (fun _ h9 => h9) rfl d_O_makes_15 ?_
  refine va_put (D := (dC, dI)) (ci := 7) (v := .int (nI k)) (ty := .int) (C := R_O) (T := F_O) (N := 27) hx hb hw0 in_O ft_O tk_O nk_O hown hK hP hD hS 0 rfl rfl 16 (by decide) (hw0 (.fieldLink R_O 116 "TextKeeperModel" "baseSize" "I") wm_288) (fun _ h9 => h9) rfl (by decide +kernel) rfl rfl (Nat.le_of_ble_eq_true rfl) d_O_makes_18 (fun H locs hP hD hS => ?_)
  replace hP : va_P (dC, dI) vwCl [(h0, .inr (7, [.int i_thrown, .int i_down, .int i_lasts, v_buffer, .int i_size, .int i_documents, v_gone, v_first, v_many, .ref hln, v_authors, v_sums, .ref hrow, .ref hmade, .int (nI k), .ref hmade, .int (nI k), v_text, .int i_textSize, .int i_textSteps, v_other, .int i_otherSize, v_piece, .int i_pieceSize, .int at0, .int en0, .int vv0])), (hmade, .inl (cB, 256, .inl (f))), (hbase, .inl (cB, 256, .inl (fb))), (hrow, .inl (cB, 16384, .inl (fr))), (hln, .inl (cL, 512, .inl (fl)))] H := hP
  replace hD : va_D A [(h0, .inr (7, [.int i_thrown, .int i_down, .int i_lasts, v_buffer, .int i_size, .int i_documents, v_gone, v_first, v_many, .ref hln, v_authors, v_sums, .ref hrow, .ref hmade, .int (nI k), .ref hmade, .int (nI k), v_text, .int i_textSize, .int i_textSteps, v_other, .int i_otherSize, v_piece, .int i_pieceSize, .int at0, .int en0, .int vv0])), (hmade, .inl (cB, 256, .inl (f))), (hbase, .inl (cB, 256, .inl (fb))), (hrow, .inl (cB, 16384, .inl (fr))), (hln, .inl (cL, 512, .inl (fl)))] := hD
  refine lv_aload_n hx hb d_O_makes_21 rfl (lv_at hl 1 rfl) ?_
  refine lv_aload_n hx hb d_O_makes_22 rfl (lv_at hl 0 rfl) ?_
  refine va_put (D := (dC, dI)) (ci := 7) (v := .ref hbase) (ty := (.array .byte)) (C := R_O) (T := F_O) (N := 27) hx hb hw0 in_O ft_O tk_O nk_O hown hK hP hD hS 0 rfl rfl 13 (by decide) (hw0 (.fieldLink R_O 41 "TextKeeperModel" "made" "[B") wm_248) (fun _ h9 => h9) rfl (by decide +kernel) rfl rfl (Nat.le_of_ble_eq_true rfl) d_O_makes_23 (fun H locs hP hD hS => ?_)
  replace hP : va_P (dC, dI) vwCl [(h0, .inr (7, [.int i_thrown, .int i_down, .int i_lasts, v_buffer, .int i_size, .int i_documents, v_gone, v_first, v_many, .ref hln, v_authors, v_sums, .ref hrow, .ref hbase, .int (nI k), .ref hmade, .int (nI k), v_text, .int i_textSize, .int i_textSteps, v_other, .int i_otherSize, v_piece, .int i_pieceSize, .int at0, .int en0, .int vv0])), (hmade, .inl (cB, 256, .inl (f))), (hbase, .inl (cB, 256, .inl (fb))), (hrow, .inl (cB, 16384, .inl (fr))), (hln, .inl (cL, 512, .inl (fl)))] H := hP
  replace hD : va_D A [(h0, .inr (7, [.int i_thrown, .int i_down, .int i_lasts, v_buffer, .int i_size, .int i_documents, v_gone, v_first, v_many, .ref hln, v_authors, v_sums, .ref hrow, .ref hbase, .int (nI k), .ref hmade, .int (nI k), v_text, .int i_textSize, .int i_textSteps, v_other, .int i_otherSize, v_piece, .int i_pieceSize, .int at0, .int en0, .int vv0])), (hmade, .inl (cB, 256, .inl (f))), (hbase, .inl (cB, 256, .inl (fb))), (hrow, .inl (cB, 16384, .inl (fr))), (hln, .inl (cL, 512, .inl (fl)))] := hD
  refine lv_aload_n hx hb d_O_makes_26 rfl (lv_at hl 1 rfl) ?_
  refine lv_iconst (v := 0) hx hb d_O_makes_27 (by decide) ?_
  refine va_put (D := (dC, dI)) (ci := 7) (v := .int 0) (ty := .int) (C := R_O) (T := F_O) (N := 27) hx hb hw0 in_O ft_O tk_O nk_O hown hK hP hD hS 0 rfl rfl 14 (by decide) (hw0 (.fieldLink R_O 113 "TextKeeperModel" "madeSize" "I") wm_246) (fun _ h9 => h9) rfl (by decide +kernel) rfl rfl (Nat.le_of_ble_eq_true rfl) d_O_makes_28 (fun H locs hP hD hS => ?_)
  replace hP : va_P (dC, dI) vwCl [(h0, .inr (7, [.int i_thrown, .int i_down, .int i_lasts, v_buffer, .int i_size, .int i_documents, v_gone, v_first, v_many, .ref hln, v_authors, v_sums, .ref hrow, .ref hbase, .int 0, .ref hmade, .int (nI k), v_text, .int i_textSize, .int i_textSteps, v_other, .int i_otherSize, v_piece, .int i_pieceSize, .int at0, .int en0, .int vv0])), (hmade, .inl (cB, 256, .inl (f))), (hbase, .inl (cB, 256, .inl (fb))), (hrow, .inl (cB, 16384, .inl (fr))), (hln, .inl (cL, 512, .inl (fl)))] H := hP
  replace hD : va_D A [(h0, .inr (7, [.int i_thrown, .int i_down, .int i_lasts, v_buffer, .int i_size, .int i_documents, v_gone, v_first, v_many, .ref hln, v_authors, v_sums, .ref hrow, .ref hbase, .int 0, .ref hmade, .int (nI k), v_text, .int i_textSize, .int i_textSteps, v_other, .int i_otherSize, v_piece, .int i_pieceSize, .int at0, .int en0, .int vv0])), (hmade, .inl (cB, 256, .inl (f))), (hbase, .inl (cB, 256, .inl (fb))), (hrow, .inl (cB, 16384, .inl (fr))), (hln, .inl (cL, 512, .inl (fl)))] := hD
  refine lv_aload_n hx hb d_O_makes_31 rfl (lv_at hl 1 rfl) ?_
  refine va_get (D := (dC, dI)) (ci := 7) (v := .ref hln) (C := R_O) (T := F_O) (N := 27) hx hb hw0 in_O hown hK hP 0 rfl rfl 9 (by decide) (hw0 (.fieldLink R_O 28 "TextKeeperModel" "lengths" "[S") wm_289) (fun _ h9 => h9) rfl d_O_makes_32 ?_
  refine lv_iload_n hx hb d_O_makes_35 rfl (lv_at hl 2 rfl) ?_
  refine va_sald hx hb hK hP 4 1 rfl rfl (vp_in_nI (by omega) (by decide)) d_O_makes_36 ?_
  refine lv_topi (fun x_1 ex_1 => ?_)
  refine lv_iconst (v := (-1)) hx hb d_O_makes_37 (by decide) ?_
  refine lv_icmp_ne (tgt := 43) hx hb d_O_makes_38 (by decide) (fun c_2 => absurd (by rw [ex_1, nI_clamp (by omega), hfl q9 hq9, lnq, hpN]; rfl) c_2) (fun c_2 => ?_)
  refine lv_iconst (v := 0) hx hb d_O_makes_41 (by decide) ?_
  have hP9 := hP.sub (ws' := [(h0, .inr (7, [.int i_thrown, .int i_down, .int i_lasts, v_buffer, .int i_size, .int i_documents, v_gone, v_first, v_many, .ref hln, v_authors, v_sums, .ref hrow, .ref hbase, .int (nI 0), .ref hmade, .int (nI k), v_text, .int i_textSize, .int i_textSteps, v_other, .int i_otherSize, v_piece, .int i_pieceSize, .int at0, .int en0, .int vv0])), (hbase, .inl (cB, 256, .inl (fb))), (hmade, .inl (cB, 256, .inl (f))), (hrow, .inl (cB, 16384, .inl (fr))), (hln, .inl (cL, 512, .inl (fl)))]) [0, 2, 1, 3, 4] rfl
  have hD9 := hD.sub (ws' := [(h0, .inr (7, [.int i_thrown, .int i_down, .int i_lasts, v_buffer, .int i_size, .int i_documents, v_gone, v_first, v_many, .ref hln, v_authors, v_sums, .ref hrow, .ref hbase, .int (nI 0), .ref hmade, .int (nI k), v_text, .int i_textSize, .int i_textSteps, v_other, .int i_otherSize, v_piece, .int i_pieceSize, .int at0, .int en0, .int vv0])), (hbase, .inl (cB, 256, .inl (fb))), (hmade, .inl (cB, 256, .inl (f))), (hrow, .inl (cB, 16384, .inl (fr))), (hln, .inl (cL, 512, .inl (fl)))]) [0, 2, 1, 3, 4] (by decide) rfl
  have hK9 := hK.sub (tys' := [(cB, .byte), (cL, .short)]) [0, 1] rfl
  exact W.zret (v := 0) (ty := .boolean) hx hb hr rfl (fun t ht hW => ⟨⟨0, (), rfl, rfl, by rw [ht]; exact hP9, va_K.moved hW.alike hK9, hD9⟩, hS.F ht⟩) hS.2.2 d_O_makes_42
set_option maxHeartbeats 4000000 in
set_option maxRecDepth 100000 in
theorem o_makes_S (l : Launch) (dC : Nat → ClassId) (dI : Nat → Nat → Nat) (sz : Nat) (h0 : Nat) (i_thrown : Int32) (i_down : Int32) (i_lasts : Int32) (v_buffer : Value) (i_size : Int32) (i_documents : Int32) (v_gone : Value) (v_first : Value) (v_many : Value) (v_authors : Value) (v_sums : Value) (bz : Int32) (v_text : Value) (i_textSize : Int32) (i_textSteps : Int32) (v_other : Value) (i_otherSize : Int32) (v_piece : Value) (i_pieceSize : Int32) (at0 : Int32) (en0 : Int32) (vv0 : Int32) (hmade : Nat) (hbase : Nat) (cB : ClassId) (k : Nat) (f : Nat → Int32) (fb : Nat → Int32) (hrow : Nat) (fr : Nat → Int32) (hln : Nat) (cL : ClassId) (fl : Nat → Int32) (pq : Nat → Option (List Int32)) (T : List Int32) (q9 : Nat) (S : List Int32) (htt : tx T k f) (hk : k ≤ 256) (hfl : ∀ j, j < 512 → fl j = vI (lnq pq j)) (hrw : rowOk pq fr) (hq9 : q9 < 512) (hpS : pq q9 = some S) : Met l y_O_makes k_O_makes ({ frames := 2, cells := 0, slots := 0, locals := 46 } : Room) (va_Pc [.ref h0, .int (nI q9)] (pc_E (dC, dI) [(h0, .inr (7, [.int i_thrown, .int i_down, .int i_lasts, v_buffer, .int i_size, .int i_documents, v_gone, v_first, v_many, .ref hln, v_authors, v_sums, .ref hrow, .ref hmade, .int (nI k), .ref hbase, .int bz, v_text, .int i_textSize, .int i_textSteps, v_other, .int i_otherSize, v_piece, .int i_pieceSize, .int at0, .int en0, .int vv0])), (hmade, .inl (cB, 256, .inl (f))), (hbase, .inl (cB, 256, .inl (fb))), (hrow, .inl (cB, 16384, .inl (fr))), (hln, .inl (cL, 512, .inl (fl)))] [(cB, .byte), (cL, .short)] sz)) (va_Qi (fun (r : Int32) (_ : Unit) => r = bI (mak S T).isSome) (fun (_ : Unit) t => ∃ (k2 : Nat) (f2 : Nat → Int32) (T2 : List Int32) (at2 : Int32) (en2 : Int32) (vv2 : Int32), ((tx T2 k2 f2 ∧ k2 ≤ 256) ∧ ∀ Y, mak S T = some Y → T2 = Y) ∧ at_E (dC, dI) (va_A [(h0, .inr (7, [.int i_thrown, .int i_down, .int i_lasts, v_buffer, .int i_size, .int i_documents, v_gone, v_first, v_many, .ref hln, v_authors, v_sums, .ref hrow, .ref hmade, .int (nI k), .ref hbase, .int bz, v_text, .int i_textSize, .int i_textSteps, v_other, .int i_otherSize, v_piece, .int i_pieceSize, .int at0, .int en0, .int vv0])), (hmade, .inl (cB, 256, .inl (f))), (hbase, .inl (cB, 256, .inl (fb))), (hrow, .inl (cB, 16384, .inl (fr))), (hln, .inl (cL, 512, .inl (fl)))] sz) [(h0, .inr (7, [.int i_thrown, .int i_down, .int i_lasts, v_buffer, .int i_size, .int i_documents, v_gone, v_first, v_many, .ref hln, v_authors, v_sums, .ref hrow, .ref hbase, .int (nI k2), .ref hmade, .int (nI k), v_text, .int i_textSize, .int i_textSteps, v_other, .int i_otherSize, v_piece, .int i_pieceSize, .int at2, .int en2, .int vv2])), (hbase, .inl (cB, 256, .inl (f2))), (hmade, .inl (cB, 256, .inl (f))), (hrow, .inl (cB, 16384, .inl (fr))), (hln, .inl (cL, 512, .inl (fl)))] [(cB, .byte), (cL, .short)] t) (va_A [(h0, .inr (7, [.int i_thrown, .int i_down, .int i_lasts, v_buffer, .int i_size, .int i_documents, v_gone, v_first, v_many, .ref hln, v_authors, v_sums, .ref hrow, .ref hmade, .int (nI k), .ref hbase, .int bz, v_text, .int i_textSize, .int i_textSteps, v_other, .int i_otherSize, v_piece, .int i_pieceSize, .int at0, .int en0, .int vv0])), (hmade, .inl (cB, 256, .inl (f))), (hbase, .inl (cB, 256, .inl (fb))), (hrow, .inl (cB, 16384, .inl (fr))), (hln, .inl (cL, 512, .inl (fl)))] sz)) 0 0 (va_A [(h0, .inr (7, [.int i_thrown, .int i_down, .int i_lasts, v_buffer, .int i_size, .int i_documents, v_gone, v_first, v_many, .ref hln, v_authors, v_sums, .ref hrow, .ref hmade, .int (nI k), .ref hbase, .int bz, v_text, .int i_textSize, .int i_textSteps, v_other, .int i_otherSize, v_piece, .int i_pieceSize, .int at0, .int en0, .int vv0])), (hmade, .inl (cB, 256, .inl (f))), (hbase, .inl (cB, 256, .inl (fb))), (hrow, .inl (cB, 16384, .inl (fr))), (hln, .inl (cL, 512, .inl (fl)))] sz) := by
  refine Met.ofW (cc := prog_9_method_19_code) (maxL := 3) (ret := (some .boolean)) (by decide) rfl ?_
  intro p e s m args below meth c s₁ B hml hv
  obtain ⟨rfl, hsz, hP, hK, hD0, hN⟩ := hv
  have hx := B.exec
  have hb := B.bytes
  have hr := B.returns
  have hts := atoms_spec (ws := k_O_makes) B.pre
  have hw0 : ∀ w ∈ w0, w.before _ s = true := fun w h => hts w (List.mem_cons_of_mem _ h)
  have hown : s.vm.findClass R_O = some m.cls := findClass_of_methodNamed B.named
  have hlocks := B.notSynchronized
  subst hsz
  have hD := hD0.self (sz := s.heap.size)
  generalize hAe : va_A [(h0, .inr (7, [.int i_thrown, .int i_down, .int i_lasts, v_buffer, .int i_size, .int i_documents, v_gone, v_first, v_many, .ref hln, v_authors, v_sums, .ref hrow, .ref hmade, .int (nI k), .ref hbase, .int bz, v_text, .int i_textSize, .int i_textSteps, v_other, .int i_otherSize, v_piece, .int i_pieceSize, .int at0, .int en0, .int vv0])), (hmade, .inl (cB, 256, .inl (f))), (hbase, .inl (cB, 256, .inl (fb))), (hrow, .inl (cB, 16384, .inl (fr))), (hln, .inl (cL, 512, .inl (fl)))] s.heap.size = A at hD ⊢
  have hA : ∀ q : Nat, s.heap.size ≤ q → A q := fun q h => by rw [← hAe]; exact Or.inr h
  have hS : va_S A s.heap s.heap [] := va_S.rf
  have hP : va_P (dC, dI) vwCl [(h0, .inr (7, [.int i_thrown, .int i_down, .int i_lasts, v_buffer, .int i_size, .int i_documents, v_gone, v_first, v_many, .ref hln, v_authors, v_sums, .ref hrow, .ref hmade, .int (nI k), .ref hbase, .int bz, v_text, .int i_textSize, .int i_textSteps, v_other, .int i_otherSize, v_piece, .int i_pieceSize, .int at0, .int en0, .int vv0])), (hmade, .inl (cB, 256, .inl (f))), (hbase, .inl (cB, 256, .inl (fb))), (hrow, .inl (cB, 16384, .inl (fr))), (hln, .inl (cL, 512, .inl (fl)))] s.heap := hP
  have hl := lv_entry ([.ref h0, .int (nI q9)]) (n := 3) (Nat.le_of_ble_eq_true rfl)
  rw [lg_entry_eq]
  generalize (lg_sl ([.ref h0, .int (nI q9)]) ++ List.replicate (3 - (lg_sl ([.ref h0, .int (nI q9)])).length) Slot.unset).toArray = ls at hl ⊢
  have hl : lv_has ls 3 [(0, .ref h0), (1, .int (nI q9))] := hl
  have hsx := row_piece hrw hq9 hpS
  have hbd := row_bd hrw
  refine lv_aload_n hx hb d_O_makes_0 rfl (lv_at hl 0 rfl) ?_
  refine va_get (D := (dC, dI)) (ci := 7) (v := .ref hbase) (C := R_O) (T := F_O) (N := 27) hx hb hw0 in_O hown hK hP 0 rfl rfl 15 (by decide) (hw0 (.fieldLink R_O 44 "TextKeeperModel" "base" "[B") wm_283) (fun _ h9 => h9) rfl d_O_makes_1 ?_
  refine lv_astore_n (lv' := [(2, .ref hbase), (0, .ref h0), (1, .int (nI q9))]) hx hb d_O_makes_4 rfl hl (by decide) rfl (fun ls hl => ?_)
  refine lv_aload_n hx hb d_O_makes_5 rfl (lv_at hl 1 rfl) ?_
  refine lv_aload_n hx hb d_O_makes_6 rfl (lv_at hl 1 rfl) ?_
  refine va_get (D := (dC, dI)) (ci := 7) (v := .ref hmade) (C := R_O) (T := F_O) (N := 27) hx hb hw0 in_O hown hK hP 0 rfl rfl 13 (by decide) (hw0 (.fieldLink R_O 41 "TextKeeperModel" "made" "[B") wm_248) (fun _ h9 => h9) rfl d_O_makes_7 ?_
  refine va_put (D := (dC, dI)) (ci := 7) (v := .ref hmade) (ty := (.array .byte)) (C := R_O) (T := F_O) (N := 27) hx hb hw0 in_O ft_O tk_O nk_O hown hK hP hD hS 0 rfl rfl 15 (by decide) (hw0 (.fieldLink R_O 44 "TextKeeperModel" "base" "[B") wm_283) (fun _ h9 => h9) rfl (by decide +kernel) rfl rfl (Nat.le_of_ble_eq_true rfl) d_O_makes_10 (fun H locs hP hD hS => ?_)
  replace hP : va_P (dC, dI) vwCl [(h0, .inr (7, [.int i_thrown, .int i_down, .int i_lasts, v_buffer, .int i_size, .int i_documents, v_gone, v_first, v_many, .ref hln, v_authors, v_sums, .ref hrow, .ref hmade, .int (nI k), .ref hmade, .int bz, v_text, .int i_textSize, .int i_textSteps, v_other, .int i_otherSize, v_piece, .int i_pieceSize, .int at0, .int en0, .int vv0])), (hmade, .inl (cB, 256, .inl (f))), (hbase, .inl (cB, 256, .inl (fb))), (hrow, .inl (cB, 16384, .inl (fr))), (hln, .inl (cL, 512, .inl (fl)))] H := hP
  replace hD : va_D A [(h0, .inr (7, [.int i_thrown, .int i_down, .int i_lasts, v_buffer, .int i_size, .int i_documents, v_gone, v_first, v_many, .ref hln, v_authors, v_sums, .ref hrow, .ref hmade, .int (nI k), .ref hmade, .int bz, v_text, .int i_textSize, .int i_textSteps, v_other, .int i_otherSize, v_piece, .int i_pieceSize, .int at0, .int en0, .int vv0])), (hmade, .inl (cB, 256, .inl (f))), (hbase, .inl (cB, 256, .inl (fb))), (hrow, .inl (cB, 16384, .inl (fr))), (hln, .inl (cL, 512, .inl (fl)))] := hD
  refine lv_aload_n hx hb d_O_makes_13 rfl (lv_at hl 1 rfl) ?_
  refine lv_aload_n hx hb d_O_makes_14 rfl (lv_at hl 1 rfl) ?_
  refine va_get (D := (dC, dI)) (ci := 7) (v := .int (nI k)) (C := R_O) (T := F_O) (N := 27) hx hb hw0 in_O hown hK hP 0 rfl rfl 14 (by decide) (hw0 (.fieldLink R_O 113 "TextKeeperModel" "madeSize" "I") wm_246) (fun _ h9 => h9) rfl d_O_makes_15 ?_
  refine va_put (D := (dC, dI)) (ci := 7) (v := .int (nI k)) (ty := .int) (C := R_O) (T := F_O) (N := 27) hx hb hw0 in_O ft_O tk_O nk_O hown hK hP hD hS 0 rfl rfl 16 (by decide) (hw0 (.fieldLink R_O 116 "TextKeeperModel" "baseSize" "I") wm_288) (fun _ h9 => h9) rfl (by decide +kernel) rfl rfl (Nat.le_of_ble_eq_true rfl) d_O_makes_18 (fun H locs hP hD hS => ?_)
  replace hP : va_P (dC, dI) vwCl [(h0, .inr (7, [.int i_thrown, .int i_down, .int i_lasts, v_buffer, .int i_size, .int i_documents, v_gone, v_first, v_many, .ref hln, v_authors, v_sums, .ref hrow, .ref hmade, .int (nI k), .ref hmade, .int (nI k), v_text, .int i_textSize, .int i_textSteps, v_other, .int i_otherSize, v_piece, .int i_pieceSize, .int at0, .int en0, .int vv0])), (hmade, .inl (cB, 256, .inl (f))), (hbase, .inl (cB, 256, .inl (fb))), (hrow, .inl (cB, 16384, .inl (fr))), (hln, .inl (cL, 512, .inl (fl)))] H := hP
  replace hD : va_D A [(h0, .inr (7, [.int i_thrown, .int i_down, .int i_lasts, v_buffer, .int i_size, .int i_documents, v_gone, v_first, v_many, .ref hln, v_authors, v_sums, .ref hrow, .ref hmade, .int (nI k), .ref hmade, .int (nI k), v_text, .int i_textSize, .int i_textSteps, v_other, .int i_otherSize, v_piece, .int i_pieceSize, .int at0, .int en0, .int vv0])), (hmade, .inl (cB, 256, .inl (f))), (hbase, .inl (cB, 256, .inl (fb))), (hrow, .inl (cB, 16384, .inl (fr))), (hln, .inl (cL, 512, .inl (fl)))] := hD
  refine lv_aload_n hx hb d_O_makes_21 rfl (lv_at hl 1 rfl) ?_
  refine lv_aload_n hx hb d_O_makes_22 rfl (lv_at hl 0 rfl) ?_
  refine va_put (D := (dC, dI)) (ci := 7) (v := .ref hbase) (ty := (.array .byte)) (C := R_O) (T := F_O) (N := 27) hx hb hw0 in_O ft_O tk_O nk_O hown hK hP hD hS 0 rfl rfl 13 (by decide) (hw0 (.fieldLink R_O 41 "TextKeeperModel" "made" "[B") wm_248) (fun _ h9 => h9) rfl (by decide +kernel) rfl rfl (Nat.le_of_ble_eq_true rfl) d_O_makes_23 (fun H locs hP hD hS => ?_)
  replace hP : va_P (dC, dI) vwCl [(h0, .inr (7, [.int i_thrown, .int i_down, .int i_lasts, v_buffer, .int i_size, .int i_documents, v_gone, v_first, v_many, .ref hln, v_authors, v_sums, .ref hrow, .ref hbase, .int (nI k), .ref hmade, .int (nI k), v_text, .int i_textSize, .int i_textSteps, v_other, .int i_otherSize, v_piece, .int i_pieceSize, .int at0, .int en0, .int vv0])), (hmade, .inl (cB, 256, .inl (f))), (hbase, .inl (cB, 256, .inl (fb))), (hrow, .inl (cB, 16384, .inl (fr))), (hln, .inl (cL, 512, .inl (fl)))] H := hP
  replace hD : va_D A [(h0, .inr (7, [.int i_thrown, .int i_down, .int i_lasts, v_buffer, .int i_size, .int i_documents, v_gone, v_first, v_many, .ref hln, v_authors, v_sums, .ref hrow, .ref hbase, .int (nI k), .ref hmade, .int (nI k), v_text, .int i_textSize, .int i_textSteps, v_other, .int i_otherSize, v_piece, .int i_pieceSize, .int at0, .int en0, .int vv0])), (hmade, .inl (cB, 256, .inl (f))), (hbase, .inl (cB, 256, .inl (fb))), (hrow, .inl (cB, 16384, .inl (fr))), (hln, .inl (cL, 512, .inl (fl)))] := hD
  refine lv_aload_n hx hb d_O_makes_26 rfl (lv_at hl 1 rfl) ?_
  refine lv_iconst (v := 0) hx hb d_O_makes_27 (by decide) ?_
  refine va_put (D := (dC, dI)) (ci := 7) (v := .int 0) (ty := .int) (C := R_O) (T := F_O) (N := 27) hx hb hw0 in_O ft_O tk_O nk_O hown hK hP hD hS 0 rfl rfl 14 (by decide) (hw0 (.fieldLink R_O 113 "TextKeeperModel" "madeSize" "I") wm_246) (fun _ h9 => h9) rfl (by decide +kernel) rfl rfl (Nat.le_of_ble_eq_true rfl) d_O_makes_28 (fun H locs hP hD hS => ?_)
  replace hP : va_P (dC, dI) vwCl [(h0, .inr (7, [.int i_thrown, .int i_down, .int i_lasts, v_buffer, .int i_size, .int i_documents, v_gone, v_first, v_many, .ref hln, v_authors, v_sums, .ref hrow, .ref hbase, .int 0, .ref hmade, .int (nI k), v_text, .int i_textSize, .int i_textSteps, v_other, .int i_otherSize, v_piece, .int i_pieceSize, .int at0, .int en0, .int vv0])), (hmade, .inl (cB, 256, .inl (f))), (hbase, .inl (cB, 256, .inl (fb))), (hrow, .inl (cB, 16384, .inl (fr))), (hln, .inl (cL, 512, .inl (fl)))] H := hP
  replace hD : va_D A [(h0, .inr (7, [.int i_thrown, .int i_down, .int i_lasts, v_buffer, .int i_size, .int i_documents, v_gone, v_first, v_many, .ref hln, v_authors, v_sums, .ref hrow, .ref hbase, .int 0, .ref hmade, .int (nI k), v_text, .int i_textSize, .int i_textSteps, v_other, .int i_otherSize, v_piece, .int i_pieceSize, .int at0, .int en0, .int vv0])), (hmade, .inl (cB, 256, .inl (f))), (hbase, .inl (cB, 256, .inl (fb))), (hrow, .inl (cB, 16384, .inl (fr))), (hln, .inl (cL, 512, .inl (fl)))] := hD
  refine lv_aload_n hx hb d_O_makes_31 rfl (lv_at hl 1 rfl) ?_
  refine va_get (D := (dC, dI)) (ci := 7) (v := .ref hln) (C := R_O) (T := F_O) (N := 27) hx hb hw0 in_O hown hK hP 0 rfl rfl 9 (by decide) (hw0 (.fieldLink R_O 28 "TextKeeperModel" "lengths" "[S") wm_289) (fun _ h9 => h9) rfl d_O_makes_32 ?_
  refine lv_iload_n hx hb d_O_makes_35 rfl (lv_at hl 2 rfl) ?_
  refine va_sald hx hb hK hP 4 1 rfl rfl (vp_in_nI (by omega) (by decide)) d_O_makes_36 ?_
  refine lv_topi (fun x_1 ex_1 => ?_)
  refine lv_iconst (v := (-1)) hx hb d_O_makes_37 (by decide) ?_
  refine lv_icmp_ne (tgt := 43) hx hb d_O_makes_38 (by decide) (fun c_2 => ?_) (fun c_2 => absurd c_2 (by rw [ex_1, nI_clamp (by omega), hfl q9 hq9, lnq, hpS]; exact nI_m1 (by have := hsx.2.2; show S.length < 2 ^ 31; omega)))
  refine lv_aload_n hx hb d_O_makes_43 rfl (lv_at hl 1 rfl) ?_
  refine lv_aload_n hx hb d_O_makes_44 rfl (lv_at hl 1 rfl) ?_
  refine lv_iload_n hx hb d_O_makes_45 rfl (lv_at hl 2 rfl) ?_
  have hPc := hP.sub (ws' := [(h0, .inr (7, [.int i_thrown, .int i_down, .int i_lasts, v_buffer, .int i_size, .int i_documents, v_gone, v_first, v_many, .ref hln, v_authors, v_sums, .ref hrow, .ref hbase, .int 0, .ref hmade, .int (nI k), v_text, .int i_textSize, .int i_textSteps, v_other, .int i_otherSize, v_piece, .int i_pieceSize, .int at0, .int en0, .int vv0])), (hln, .inl (cL, 512, .inl ((fl))))]) [0, 4] rfl
  have hKc := hK.sub (tys' := [(cL, .short)]) [1] rfl
  refine ps_i (va_runV (As := [.int (nI q9)]) (rest := [.ref h0]) ⟨hx, hb, hml, hown, hw0⟩ (o_begins l dC dI h0 i_thrown i_down i_lasts v_buffer i_size i_documents v_gone v_first v_many v_authors v_sums (.ref hrow) (.ref hbase) 0 (.ref hmade) (nI k) v_text i_textSize i_textSteps v_other i_otherSize v_piece i_pieceSize at0 en0 vv0 hln cL (fl) (lnq pq) q9 (by first | assumption | decide | omega) (by first | assumption | decide | omega) (by first | assumption | decide | omega)) (cwV 1 hw0 (gd_Vm wm_343 wm_344 wm_345 wm_243 wm_346) rfl rfl rfl (by decide +kernel) ⟨by decide +kernel, by decide +kernel⟩) (prV_R hPc hKc hN (va_recv hKc hPc (ci := 7) (q0 := 0) rfl rfl)) rfl rfl hl.1 rfl (lv_room (Nat.le_of_ble_eq_true rfl)) d_O_makes_46 ⟨by decide +kernel, by decide +kernel⟩) (fun r_3 hr_3 => ?_)
  obtain rfl : r_3 = (nI (bgs (lnq pq) q9)) := hr_3
  refine va_put (D := (dC, dI)) (ci := 7) (v := .int (nI (bgs (lnq pq) q9))) (ty := .int) (C := R_O) (T := F_O) (N := 27) hx hb hw0 in_O ft_O tk_O nk_O hown hK hP hD hS 0 rfl rfl 24 (by decide) (hw0 (.fieldLink R_O 103 "TextKeeperModel" "at" "I") wm_262) (fun _ h9 => h9) rfl (by decide +kernel) rfl rfl (Nat.le_of_ble_eq_true rfl) d_O_makes_49 (fun H locs hP hD hS => ?_)
  replace hP : va_P (dC, dI) vwCl [(h0, .inr (7, [.int i_thrown, .int i_down, .int i_lasts, v_buffer, .int i_size, .int i_documents, v_gone, v_first, v_many, .ref hln, v_authors, v_sums, .ref hrow, .ref hbase, .int 0, .ref hmade, .int (nI k), v_text, .int i_textSize, .int i_textSteps, v_other, .int i_otherSize, v_piece, .int i_pieceSize, .int (nI (bgs (lnq pq) q9)), .int en0, .int vv0])), (hmade, .inl (cB, 256, .inl (f))), (hbase, .inl (cB, 256, .inl (fb))), (hrow, .inl (cB, 16384, .inl (fr))), (hln, .inl (cL, 512, .inl (fl)))] H := hP
  replace hD : va_D A [(h0, .inr (7, [.int i_thrown, .int i_down, .int i_lasts, v_buffer, .int i_size, .int i_documents, v_gone, v_first, v_many, .ref hln, v_authors, v_sums, .ref hrow, .ref hbase, .int 0, .ref hmade, .int (nI k), v_text, .int i_textSize, .int i_textSteps, v_other, .int i_otherSize, v_piece, .int i_pieceSize, .int (nI (bgs (lnq pq) q9)), .int en0, .int vv0])), (hmade, .inl (cB, 256, .inl (f))), (hbase, .inl (cB, 256, .inl (fb))), (hrow, .inl (cB, 16384, .inl (fr))), (hln, .inl (cL, 512, .inl (fl)))] := hD
  refine lv_aload_n hx hb d_O_makes_52 rfl (lv_at hl 1 rfl) ?_
  refine lv_aload_n hx hb d_O_makes_53 rfl (lv_at hl 1 rfl) ?_
  refine va_get (D := (dC, dI)) (ci := 7) (v := .int (nI (bgs (lnq pq) q9))) (C := R_O) (T := F_O) (N := 27) hx hb hw0 in_O hown hK hP 0 rfl rfl 24 (by decide) (hw0 (.fieldLink R_O 103 "TextKeeperModel" "at" "I") wm_262) (fun _ h9 => h9) rfl d_O_makes_54 ?_
  refine lv_aload_n hx hb d_O_makes_57 rfl (lv_at hl 1 rfl) ?_
  refine va_get (D := (dC, dI)) (ci := 7) (v := .ref hln) (C := R_O) (T := F_O) (N := 27) hx hb hw0 in_O hown hK hP 0 rfl rfl 9 (by decide) (hw0 (.fieldLink R_O 28 "TextKeeperModel" "lengths" "[S") wm_289) (fun _ h9 => h9) rfl d_O_makes_58 ?_
  refine lv_iload_n hx hb d_O_makes_61 rfl (lv_at hl 2 rfl) ?_
  refine va_sald hx hb hK hP 4 1 rfl rfl (vp_in_nI (by omega) (by decide)) d_O_makes_62 ?_
  refine lv_topi (fun x_4 ex_4 => ?_)
  refine lv_iadd hx hb d_O_makes_63 ?_
  refine lv_topi (fun x_5 ex_5 => ?_)
  obtain rfl : x_5 = (nI (bgs (lnq pq) q9 + S.length)) := by rw [ex_5, ex_4]; rw [nI_clamp (by omega), hfl q9 hq9, lnq, hpS]; exact nI_add _ _
  clear ex_5
  refine va_put (D := (dC, dI)) (ci := 7) (v := .int (nI (bgs (lnq pq) q9 + S.length))) (ty := .int) (C := R_O) (T := F_O) (N := 27) hx hb hw0 in_O ft_O tk_O nk_O hown hK hP hD hS 0 rfl rfl 25 (by decide) (hw0 (.fieldLink R_O 106 "TextKeeperModel" "end" "I") wm_263) (fun _ h9 => h9) rfl (by decide +kernel) rfl rfl (Nat.le_of_ble_eq_true rfl) d_O_makes_64 (fun H locs hP hD hS => ?_)
  replace hP : va_P (dC, dI) vwCl [(h0, .inr (7, [.int i_thrown, .int i_down, .int i_lasts, v_buffer, .int i_size, .int i_documents, v_gone, v_first, v_many, .ref hln, v_authors, v_sums, .ref hrow, .ref hbase, .int 0, .ref hmade, .int (nI k), v_text, .int i_textSize, .int i_textSteps, v_other, .int i_otherSize, v_piece, .int i_pieceSize, .int (nI (bgs (lnq pq) q9)), .int (nI (bgs (lnq pq) q9 + S.length)), .int vv0])), (hmade, .inl (cB, 256, .inl (f))), (hbase, .inl (cB, 256, .inl (fb))), (hrow, .inl (cB, 16384, .inl (fr))), (hln, .inl (cL, 512, .inl (fl)))] H := hP
  replace hD : va_D A [(h0, .inr (7, [.int i_thrown, .int i_down, .int i_lasts, v_buffer, .int i_size, .int i_documents, v_gone, v_first, v_many, .ref hln, v_authors, v_sums, .ref hrow, .ref hbase, .int 0, .ref hmade, .int (nI k), v_text, .int i_textSize, .int i_textSteps, v_other, .int i_otherSize, v_piece, .int i_pieceSize, .int (nI (bgs (lnq pq) q9)), .int (nI (bgs (lnq pq) q9 + S.length)), .int vv0])), (hmade, .inl (cB, 256, .inl (f))), (hbase, .inl (cB, 256, .inl (fb))), (hrow, .inl (cB, 16384, .inl (fr))), (hln, .inl (cL, 512, .inl (fl)))] := hD
  refine lo_mak h0 i_thrown i_down i_lasts v_buffer i_size i_documents v_gone v_first v_many (.ref hln) v_authors v_sums v_text i_textSize i_textSteps v_other i_otherSize v_piece i_pieceSize hbase cB hmade cB k f T hrow cB fr S (bgs (lnq pq) q9 + S.length) (bgs (lnq pq) q9) (mak S T) ([(hln, .inl (cL, 512, .inl (fl)))]) htt hsx hk rfl hx hb hml hown hw0 hN (hK.sub (tys' := [(cB, .byte), (cB, .byte), (cB, .byte)]) [0, 0, 0] rfl) hA (fun ab k2 f2 T2 vv F2 g0 g1 g2 g3 g4 H locs hP hD hS ls hl => ?_) (fun ab k2 f2 T2 vv g0 g1 g2 H locs hP hD hS ls hl => ?_) (S.length + 1) 0 (by omega) (by omega) (bgs (lnq pq) q9) 0 fb [] vv0 S.length (by omega) (tx_nil fb) (by omega) rfl (by omega) _ _ (hP.sub (ws' := [(h0, .inr (7, [.int i_thrown, .int i_down, .int i_lasts, v_buffer, .int i_size, .int i_documents, v_gone, v_first, v_many, .ref hln, v_authors, v_sums, .ref hrow, .ref hbase, .int 0, .ref hmade, .int (nI k), v_text, .int i_textSize, .int i_textSteps, v_other, .int i_otherSize, v_piece, .int i_pieceSize, .int (nI (bgs (lnq pq) q9)), .int (nI (bgs (lnq pq) q9 + S.length)), .int vv0])), (hbase, .inl (cB, 256, .inl (fb))), (hmade, .inl (cB, 256, .inl (f))), (hrow, .inl (cB, 16384, .inl (fr))), (hln, .inl (cL, 512, .inl (fl)))]) [0, 2, 1, 3, 4] rfl) (hD.sub (ws' := [(h0, .inr (7, [.int i_thrown, .int i_down, .int i_lasts, v_buffer, .int i_size, .int i_documents, v_gone, v_first, v_many, .ref hln, v_authors, v_sums, .ref hrow, .ref hbase, .int 0, .ref hmade, .int (nI k), v_text, .int i_textSize, .int i_textSteps, v_other, .int i_otherSize, v_piece, .int i_pieceSize, .int (nI (bgs (lnq pq) q9)), .int (nI (bgs (lnq pq) q9 + S.length)), .int vv0])), (hbase, .inl (cB, 256, .inl (fb))), (hmade, .inl (cB, 256, .inl (f))), (hrow, .inl (cB, 16384, .inl (fr))), (hln, .inl (cL, 512, .inl (fl)))]) [0, 2, 1, 3, 4] (by decide) rfl) hS ls (lv_sub hl [1] rfl)
  · replace hP : va_P (dC, dI) vwCl [(h0, .inr (7, [.int i_thrown, .int i_down, .int i_lasts, v_buffer, .int i_size, .int i_documents, v_gone, v_first, v_many, .ref hln, v_authors, v_sums, .ref hrow, .ref hbase, .int (nI k2), .ref hmade, .int (nI k), v_text, .int i_textSize, .int i_textSteps, v_other, .int i_otherSize, v_piece, .int i_pieceSize, .int (nI ab), .int (nI (bgs (lnq pq) q9 + S.length)), .int vv])), (hbase, .inl (cB, 256, .inl (f2))), (hmade, .inl (cB, 256, .inl (f))), (hrow, .inl (cB, 16384, .inl (fr))), (hln, .inl (cL, 512, .inl (fl)))] H := hP
    replace hD : va_D A [(h0, .inr (7, [.int i_thrown, .int i_down, .int i_lasts, v_buffer, .int i_size, .int i_documents, v_gone, v_first, v_many, .ref hln, v_authors, v_sums, .ref hrow, .ref hbase, .int (nI k2), .ref hmade, .int (nI k), v_text, .int i_textSize, .int i_textSteps, v_other, .int i_otherSize, v_piece, .int i_pieceSize, .int (nI ab), .int (nI (bgs (lnq pq) q9 + S.length)), .int vv])), (hbase, .inl (cB, 256, .inl (f2))), (hmade, .inl (cB, 256, .inl (f))), (hrow, .inl (cB, 16384, .inl (fr))), (hln, .inl (cL, 512, .inl (fl)))] := hD
    have hr9 : mak S T = some T2 := (by rw [← g3]; exact mkF_end (Nat.lt_irrefl _))
    refine lv_iconst (v := 1) hx hb d_O_makes_87 (by decide) ?_
    have hP9 := hP.sub (ws' := [(h0, .inr (7, [.int i_thrown, .int i_down, .int i_lasts, v_buffer, .int i_size, .int i_documents, v_gone, v_first, v_many, .ref hln, v_authors, v_sums, .ref hrow, .ref hbase, .int (nI k2), .ref hmade, .int (nI k), v_text, .int i_textSize, .int i_textSteps, v_other, .int i_otherSize, v_piece, .int i_pieceSize, .int (nI ab), .int (nI (bgs (lnq pq) q9 + S.length)), .int vv])), (hbase, .inl (cB, 256, .inl (f2))), (hmade, .inl (cB, 256, .inl (f))), (hrow, .inl (cB, 16384, .inl (fr))), (hln, .inl (cL, 512, .inl (fl)))]) [0, 1, 2, 3, 4] rfl
    have hD9 := hD.sub (ws' := [(h0, .inr (7, [.int i_thrown, .int i_down, .int i_lasts, v_buffer, .int i_size, .int i_documents, v_gone, v_first, v_many, .ref hln, v_authors, v_sums, .ref hrow, .ref hbase, .int (nI k2), .ref hmade, .int (nI k), v_text, .int i_textSize, .int i_textSteps, v_other, .int i_otherSize, v_piece, .int i_pieceSize, .int (nI ab), .int (nI (bgs (lnq pq) q9 + S.length)), .int vv])), (hbase, .inl (cB, 256, .inl (f2))), (hmade, .inl (cB, 256, .inl (f))), (hrow, .inl (cB, 16384, .inl (fr))), (hln, .inl (cL, 512, .inl (fl)))]) [0, 1, 2, 3, 4] (by decide) rfl
    have hK9 := hK.sub (tys' := [(cB, .byte), (cL, .short)]) [0, 1] rfl
    exact W.zret (v := 1) (ty := .boolean) hx hb hr rfl (fun t ht hW => ⟨⟨1, (), rfl, (by rw [hr9]; rfl), k2, f2, T2, (nI ab), (nI (bgs (lnq pq) q9 + S.length)), vv, ⟨⟨g1, g2⟩, (fun Y e9 => Option.some.inj (hr9.symm.trans e9))⟩, by rw [ht]; exact hP9, va_K.moved hW.alike hK9, hD9⟩, hS.F ht⟩) hS.2.2 d_O_makes_88
  · replace hP : va_P (dC, dI) vwCl [(h0, .inr (7, [.int i_thrown, .int i_down, .int i_lasts, v_buffer, .int i_size, .int i_documents, v_gone, v_first, v_many, .ref hln, v_authors, v_sums, .ref hrow, .ref hbase, .int (nI k2), .ref hmade, .int (nI k), v_text, .int i_textSize, .int i_textSteps, v_other, .int i_otherSize, v_piece, .int i_pieceSize, .int (nI ab), .int (nI (bgs (lnq pq) q9 + S.length)), .int vv])), (hbase, .inl (cB, 256, .inl (f2))), (hmade, .inl (cB, 256, .inl (f))), (hrow, .inl (cB, 16384, .inl (fr))), (hln, .inl (cL, 512, .inl (fl)))] H := hP
    replace hD : va_D A [(h0, .inr (7, [.int i_thrown, .int i_down, .int i_lasts, v_buffer, .int i_size, .int i_documents, v_gone, v_first, v_many, .ref hln, v_authors, v_sums, .ref hrow, .ref hbase, .int (nI k2), .ref hmade, .int (nI k), v_text, .int i_textSize, .int i_textSteps, v_other, .int i_otherSize, v_piece, .int i_pieceSize, .int (nI ab), .int (nI (bgs (lnq pq) q9 + S.length)), .int vv])), (hbase, .inl (cB, 256, .inl (f2))), (hmade, .inl (cB, 256, .inl (f))), (hrow, .inl (cB, 16384, .inl (fr))), (hln, .inl (cL, 512, .inl (fl)))] := hD
    have hr9 : mak S T = none := g2
    refine lv_iconst (v := 0) hx hb d_O_makes_85 (by decide) ?_
    have hP9 := hP.sub (ws' := [(h0, .inr (7, [.int i_thrown, .int i_down, .int i_lasts, v_buffer, .int i_size, .int i_documents, v_gone, v_first, v_many, .ref hln, v_authors, v_sums, .ref hrow, .ref hbase, .int (nI k2), .ref hmade, .int (nI k), v_text, .int i_textSize, .int i_textSteps, v_other, .int i_otherSize, v_piece, .int i_pieceSize, .int (nI ab), .int (nI (bgs (lnq pq) q9 + S.length)), .int vv])), (hbase, .inl (cB, 256, .inl (f2))), (hmade, .inl (cB, 256, .inl (f))), (hrow, .inl (cB, 16384, .inl (fr))), (hln, .inl (cL, 512, .inl (fl)))]) [0, 1, 2, 3, 4] rfl
    have hD9 := hD.sub (ws' := [(h0, .inr (7, [.int i_thrown, .int i_down, .int i_lasts, v_buffer, .int i_size, .int i_documents, v_gone, v_first, v_many, .ref hln, v_authors, v_sums, .ref hrow, .ref hbase, .int (nI k2), .ref hmade, .int (nI k), v_text, .int i_textSize, .int i_textSteps, v_other, .int i_otherSize, v_piece, .int i_pieceSize, .int (nI ab), .int (nI (bgs (lnq pq) q9 + S.length)), .int vv])), (hbase, .inl (cB, 256, .inl (f2))), (hmade, .inl (cB, 256, .inl (f))), (hrow, .inl (cB, 16384, .inl (fr))), (hln, .inl (cL, 512, .inl (fl)))]) [0, 1, 2, 3, 4] (by decide) rfl
    have hK9 := hK.sub (tys' := [(cB, .byte), (cL, .short)]) [0, 1] rfl
    exact W.zret (v := 0) (ty := .boolean) hx hb hr rfl (fun t ht hW => ⟨⟨0, (), rfl, (by rw [hr9]; rfl), k2, f2, T2, (nI ab), (nI (bgs (lnq pq) q9 + S.length)), vv, ⟨⟨g0, g1⟩, (fun Y e9 => by rw [hr9] at e9; cases e9)⟩, by rw [ht]; exact hP9, va_K.moved hW.alike hK9, hD9⟩, hS.F ht⟩) hS.2.2 d_O_makes_86
set_option maxHeartbeats 4000000 in
set_option maxRecDepth 100000 in
theorem lo_aga {p : Program} {l : Launch} {e : Env} {s : State} {m : MethodId} {args : Array Value} {below : List Frame} {meth : Method} {c : Code} {dC : Nat → ClassId} {dI : Nat → Nat → Nat} {A : Nat → Prop} {Q : State → Prop} (h0 : Nat) (i_thrown : Int32) (i_down : Int32) (i_lasts : Int32) (v_buffer : Value) (i_size : Int32) (i_documents : Int32) (v_gone : Value) (v_first : Value) (v_many : Value) (v_authors : Value) (v_sums : Value) (v_text : Value) (i_textSize : Int32) (i_textSteps : Int32) (v_other : Value) (i_otherSize : Int32) (v_piece : Value) (i_pieceSize : Int32) (cB : ClassId) (hrow : Nat) (fr : Nat → Int32) (hln : Nat) (cL : ClassId) (fl : Nat → Int32) (pq : Nat → Option (List Int32)) (d9 : Nat) (r9 : Nat) (hfl : ∀ j, j < 512 → fl j = vI (lnq pq j)) (hrw : rowOk pq fr) (hd9 : d9 < 8) (hr9 : r9 < 64)
    (hx : p.tables.exec = Jvm.exec) (hb : c.code = prog_9_method_20_code) (hml : c.maxLocals = 5) (hown : s.vm.findClass R_O = some m.cls) (hw0 : ∀ w ∈ w0, w.before args s = true) (hN : nw_ok s) (hK : va_K (dC, dI) vwCl [(cB, .byte), (cL, .short)] s) (hA : ∀ q : Nat, s.heap.size ≤ q → A q)
    (kk : ∀ (hmade : Nat) (hbase : Nat) (k : Nat) (f : Nat → Int32) (fb : Nat → Int32) (bz : Int32) (at0 : Int32) (en0 : Int32) (vv0 : Int32) (T : List Int32), (tx T k f) → (k ≤ 256) → (agJ (pqF pq d9) r9 6 = some T) → ∀ (H : Heap) (locs : List Loc), va_P (dC, dI) vwCl [(h0, .inr (7, [.int i_thrown, .int i_down, .int i_lasts, v_buffer, .int i_size, .int i_documents, v_gone, v_first, v_many, .ref hln, v_authors, v_sums, .ref hrow, .ref hmade, .int (nI k), .ref hbase, .int bz, v_text, .int i_textSize, .int i_textSteps, v_other, .int i_otherSize, v_piece, .int i_pieceSize, .int at0, .int en0, .int vv0])), (hmade, .inl (cB, 256, .inl (f))), (hbase, .inl (cB, 256, .inl (fb))), (hrow, .inl (cB, 16384, .inl (fr))), (hln, .inl (cL, 512, .inl (fl)))] H → va_D A [(h0, .inr (7, [.int i_thrown, .int i_down, .int i_lasts, v_buffer, .int i_size, .int i_documents, v_gone, v_first, v_many, .ref hln, v_authors, v_sums, .ref hrow, .ref hmade, .int (nI k), .ref hbase, .int bz, v_text, .int i_textSize, .int i_textSteps, v_other, .int i_otherSize, v_piece, .int i_pieceSize, .int at0, .int en0, .int vv0])), (hmade, .inl (cB, 256, .inl (f))), (hbase, .inl (cB, 256, .inl (fb))), (hrow, .inl (cB, 16384, .inl (fr))), (hln, .inl (cL, 512, .inl (fl)))] → va_S A s.heap H locs → ∀ ls : Array Slot, lv_has ls 5 [(4, .int (nI (bt6 6))), (3, .int (nI (hi6 6 r9))), (0, .ref h0), (1, .int (nI d9)), (2, .int (nI r9))] → W p l e ({ frames := 3, cells := 0, slots := 0, locals := 68 } : Room) s m args below meth c H locs 0 0 Q (F0 m 65 ls []))
    (kk2 : ∀ (hmade : Nat) (hbase : Nat) (k : Nat) (f : Nat → Int32) (fb : Nat → Int32) (bz : Int32) (at0 : Int32) (en0 : Int32) (vv0 : Int32) (T : List Int32), (tx T k f) → (k ≤ 256) → (agn (pqF pq d9) r9 = none) → ∀ (H : Heap) (locs : List Loc), va_P (dC, dI) vwCl [(h0, .inr (7, [.int i_thrown, .int i_down, .int i_lasts, v_buffer, .int i_size, .int i_documents, v_gone, v_first, v_many, .ref hln, v_authors, v_sums, .ref hrow, .ref hmade, .int (nI k), .ref hbase, .int bz, v_text, .int i_textSize, .int i_textSteps, v_other, .int i_otherSize, v_piece, .int i_pieceSize, .int at0, .int en0, .int vv0])), (hmade, .inl (cB, 256, .inl (f))), (hbase, .inl (cB, 256, .inl (fb))), (hrow, .inl (cB, 16384, .inl (fr))), (hln, .inl (cL, 512, .inl (fl)))] H → va_D A [(h0, .inr (7, [.int i_thrown, .int i_down, .int i_lasts, v_buffer, .int i_size, .int i_documents, v_gone, v_first, v_many, .ref hln, v_authors, v_sums, .ref hrow, .ref hmade, .int (nI k), .ref hbase, .int bz, v_text, .int i_textSize, .int i_textSteps, v_other, .int i_otherSize, v_piece, .int i_pieceSize, .int at0, .int en0, .int vv0])), (hmade, .inl (cB, 256, .inl (f))), (hbase, .inl (cB, 256, .inl (fb))), (hrow, .inl (cB, 16384, .inl (fr))), (hln, .inl (cL, 512, .inl (fl)))] → va_S A s.heap H locs → ∀ ls : Array Slot, lv_has ls 5 [(0, .ref h0)] → W p l e ({ frames := 3, cells := 0, slots := 0, locals := 68 } : Room) s m args below meth c H locs 0 0 Q (F0 m 54 ls [])) :
    ∀ (n j : Nat), j ≤ 6 → 6 < j + n → ∀ (hmade : Nat) (hbase : Nat) (k : Nat) (f : Nat → Int32) (fb : Nat → Int32) (bz : Int32) (at0 : Int32) (en0 : Int32) (vv0 : Int32) (T : List Int32), (tx T k f) → (k ≤ 256) → (agJ (pqF pq d9) r9 j = some T) → ∀ (H : Heap) (locs : List Loc), va_P (dC, dI) vwCl [(h0, .inr (7, [.int i_thrown, .int i_down, .int i_lasts, v_buffer, .int i_size, .int i_documents, v_gone, v_first, v_many, .ref hln, v_authors, v_sums, .ref hrow, .ref hmade, .int (nI k), .ref hbase, .int bz, v_text, .int i_textSize, .int i_textSteps, v_other, .int i_otherSize, v_piece, .int i_pieceSize, .int at0, .int en0, .int vv0])), (hmade, .inl (cB, 256, .inl (f))), (hbase, .inl (cB, 256, .inl (fb))), (hrow, .inl (cB, 16384, .inl (fr))), (hln, .inl (cL, 512, .inl (fl)))] H → va_D A [(h0, .inr (7, [.int i_thrown, .int i_down, .int i_lasts, v_buffer, .int i_size, .int i_documents, v_gone, v_first, v_many, .ref hln, v_authors, v_sums, .ref hrow, .ref hmade, .int (nI k), .ref hbase, .int bz, v_text, .int i_textSize, .int i_textSteps, v_other, .int i_otherSize, v_piece, .int i_pieceSize, .int at0, .int en0, .int vv0])), (hmade, .inl (cB, 256, .inl (f))), (hbase, .inl (cB, 256, .inl (fb))), (hrow, .inl (cB, 16384, .inl (fr))), (hln, .inl (cL, 512, .inl (fl)))] → va_S A s.heap H locs → ∀ ls : Array Slot, lv_has ls 5 [(4, .int (nI (bt6 j))), (3, .int (nI (hi6 j r9))), (0, .ref h0), (1, .int (nI d9)), (2, .int (nI r9))] → W p l e ({ frames := 3, cells := 0, slots := 0, locals := 68 } : Room) s m args below meth c H locs 0 0 Q (F0 m 24 ls []) := by
  intro n
  induction n with
  | zero => intro j h1 h2; exact absurd h2 (by omega)
  | succ n ih =>
    intro j hj hn hmade hbase k f fb bz at0 en0 vv0 T hf0 hf1 hf2 H locs hP hD hS ls hl
    refine lv_iload hx hb d_O_again_24 (lv_at hl 0 rfl) ?_
    refine lv_if_le (tgt := 65) hx hb d_O_again_26 (by decide) (fun c_1 => ?_) (fun c_1 => ?_)
    · have hj6 : j = 6 := (by rcases Nat.lt_or_ge j 6 with z | z; exact absurd c_1 (nI_nle (bt6_iff r9 j (by omega) z).2.2.2.2.2.1 (by have := (bt6_iff r9 j (by omega) z).2.2.2.2.2.2; omega)); omega)
      obtain rfl : j = 6 := hj6
      exact kk hmade hbase k f fb bz at0 en0 vv0 T hf0 hf1 hf2 _ _ hP hD hS ls (lv_sub hl [0, 1, 2, 3, 4] rfl)
    · have hlt : j < 6 := (by rcases Nat.lt_or_ge j 6 with z | z; exact z; obtain rfl : j = 6 := (by omega); exact absurd (by decide) c_1); have hb9 := bt6_iff r9 j (by omega) hlt
      refine lv_iload_n hx hb d_O_again_29 rfl (lv_at hl 4 rfl) ?_
      refine lv_iload hx hb d_O_again_30 (lv_at hl 0 rfl) ?_
      refine lv_iand hx hb d_O_again_32 ?_
      refine lv_topi (fun x_2 ex_2 => ?_)
      refine lv_if_eq (tgt := 56) hx hb d_O_again_33 (by decide) (fun c_3 => ?_) (fun c_3 => ?_)
      · have hd8 : hi6 (j + 1) r9 = hi6 j r9 := hb9.1.mp (by rw [← ex_2]; exact c_3)
        refine lv_iload hx hb d_O_again_56 (lv_at hl 0 rfl) ?_
        refine lv_iconst (v := 2) hx hb d_O_again_58 (by decide) ?_
        refine lv_idiv hx hb d_O_again_59 (by decide +kernel) ?_
        refine lv_topi (fun x_4 ex_4 => ?_)
        obtain rfl : x_4 = (nI (bt6 (j + 1))) := by rw [ex_4]; rw [← hb9.2.2.2.2.1]; exact (show nI (bt6 j) / nI 2 = nI (bt6 j / 2) from pk_div (by omega) (by decide) (by decide))
        clear ex_4
        refine lv_istore (lv' := [(4, .int (nI (bt6 (j + 1)))), (3, .int (nI (hi6 j r9))), (0, .ref h0), (1, .int (nI d9)), (2, .int (nI r9))]) hx hb d_O_again_60 hl (by decide) rfl (fun ls hl => ?_)
        refine lv_goto (tgt := 24) hx hb d_O_again_62 (by decide) ?_
        exact ih (j + 1) hlt (by omega) hmade hbase k f fb bz at0 en0 vv0 T hf0 hf1 (by rw [agJ_same hd8]; exact hf2) _ _ (hP.sub (ws' := [(h0, .inr (7, [.int i_thrown, .int i_down, .int i_lasts, v_buffer, .int i_size, .int i_documents, v_gone, v_first, v_many, .ref hln, v_authors, v_sums, .ref hrow, .ref hmade, .int (nI k), .ref hbase, .int bz, v_text, .int i_textSize, .int i_textSteps, v_other, .int i_otherSize, v_piece, .int i_pieceSize, .int at0, .int en0, .int vv0])), (hmade, .inl (cB, 256, .inl (f))), (hbase, .inl (cB, 256, .inl (fb))), (hrow, .inl (cB, 16384, .inl (fr))), (hln, .inl (cL, 512, .inl (fl)))]) [0, 1, 2, 3, 4] rfl) (hD.sub (ws' := [(h0, .inr (7, [.int i_thrown, .int i_down, .int i_lasts, v_buffer, .int i_size, .int i_documents, v_gone, v_first, v_many, .ref hln, v_authors, v_sums, .ref hrow, .ref hmade, .int (nI k), .ref hbase, .int bz, v_text, .int i_textSize, .int i_textSteps, v_other, .int i_otherSize, v_piece, .int i_pieceSize, .int at0, .int en0, .int vv0])), (hmade, .inl (cB, 256, .inl (f))), (hbase, .inl (cB, 256, .inl (fb))), (hrow, .inl (cB, 16384, .inl (fr))), (hln, .inl (cL, 512, .inl (fl)))]) [0, 1, 2, 3, 4] (by decide) rfl) hS ls (by rw [hd8]; exact (lv_sub hl [0, 1, 2, 3, 4] rfl))
      · have hd8 : ¬ hi6 (j + 1) r9 = hi6 j r9 := (fun z => c_3 (by rw [ex_2]; exact hb9.1.mpr z))
        refine lv_iload_n hx hb d_O_again_36 rfl (lv_at hl 1 rfl) ?_
        refine lv_iload hx hb d_O_again_37 (lv_at hl 0 rfl) ?_
        refine lv_iadd hx hb d_O_again_39 ?_
        refine lv_topi (fun x_5 ex_5 => ?_)
        obtain rfl : x_5 = (nI (hi6 (j + 1) r9)) := by rw [ex_5]; rw [hb9.2.1.resolve_left hd8]; exact nI_add _ _
        clear ex_5
        refine lv_istore_n (lv' := [(3, .int (nI (hi6 (j + 1) r9))), (4, .int (nI (bt6 j))), (0, .ref h0), (1, .int (nI d9)), (2, .int (nI r9))]) hx hb d_O_again_40 rfl hl (by decide) rfl (fun ls hl => ?_)
        have hb6 := bt6_iff r9 j (by omega) hlt
        rcases hp9 : pq (64 * d9 + hi6 (j + 1) r9) with _ | S9
        · have hbad : agn (pqF pq d9) r9 = none := agJ_none (j := j + 1) (by rw [agJ_step hd8]; exact stp6_n hp9) 6 (by omega)
          refine lv_aload_n hx hb d_O_again_41 rfl (lv_at hl 2 rfl) ?_
          refine lv_bipush (v := 64) hx hb d_O_again_42 (by decide +kernel) ?_
          refine lv_iload_n hx hb d_O_again_44 rfl (lv_at hl 3 rfl) ?_
          refine lv_imul hx hb d_O_again_45 ?_
          refine lv_topi (fun x_6 ex_6 => ?_)
          obtain rfl : x_6 = (nI (64 * d9)) := by rw [ex_6]; exact (show nI 64 * nI d9 = nI (64 * d9) from pk_mul _ _)
          clear ex_6
          refine lv_iload_n hx hb d_O_again_46 rfl (lv_at hl 0 rfl) ?_
          refine lv_iadd hx hb d_O_again_47 ?_
          refine lv_topi (fun x_7 ex_7 => ?_)
          obtain rfl : x_7 = (nI (64 * d9 + hi6 (j + 1) r9)) := by rw [ex_7]; exact nI_add _ _
          clear ex_7
          have hPc := hP.sub (ws' := [(h0, .inr (7, [.int i_thrown, .int i_down, .int i_lasts, v_buffer, .int i_size, .int i_documents, v_gone, v_first, v_many, .ref hln, v_authors, v_sums, .ref hrow, .ref hmade, .int (nI k), .ref hbase, .int bz, v_text, .int i_textSize, .int i_textSteps, v_other, .int i_otherSize, v_piece, .int i_pieceSize, .int at0, .int en0, .int vv0])), (hmade, .inl (cB, 256, .inl ((f)))), (hbase, .inl (cB, 256, .inl ((fb)))), (hrow, .inl (cB, 16384, .inl ((fr)))), (hln, .inl (cL, 512, .inl ((fl))))]) [0, 1, 2, 3, 4] rfl
          have hKc := hK.sub (tys' := [(cB, .byte), (cL, .short)]) [0, 1] rfl
          have hDc := hD.sub (ws' := [(h0, .inr (7, [.int i_thrown, .int i_down, .int i_lasts, v_buffer, .int i_size, .int i_documents, v_gone, v_first, v_many, .ref hln, v_authors, v_sums, .ref hrow, .ref hmade, .int (nI k), .ref hbase, .int bz, v_text, .int i_textSize, .int i_textSteps, v_other, .int i_otherSize, v_piece, .int i_pieceSize, .int at0, .int en0, .int vv0])), (hmade, .inl (cB, 256, .inl ((f)))), (hbase, .inl (cB, 256, .inl ((fb)))), (hrow, .inl (cB, 16384, .inl ((fr)))), (hln, .inl (cL, 512, .inl ((fl))))]) [0, 1, 2, 3, 4] (by decide) rfl
          have hFc := va_free (wc := [(h0, .inr (7, [.int i_thrown, .int i_down, .int i_lasts, v_buffer, .int i_size, .int i_documents, v_gone, v_first, v_many, .ref hln, v_authors, v_sums, .ref hrow, .ref hmade, .int (nI k), .ref hbase, .int bz, v_text, .int i_textSize, .int i_textSteps, v_other, .int i_otherSize, v_piece, .int i_pieceSize, .int at0, .int en0, .int vv0])), (hmade, .inl (cB, 256, .inl ((f)))), (hbase, .inl (cB, 256, .inl ((fb)))), (hrow, .inl (cB, 16384, .inl ((fr)))), (hln, .inl (cL, 512, .inl ((fl))))]) hD hS hA [0, 1, 2, 3, 4] rfl
          refine va_calli (va_runV (As := [.int (nI (64 * d9 + hi6 (j + 1) r9))]) (rest := []) ⟨hx, hb, hml, hown, hw0⟩ (o_makes_N l dC dI H.size h0 i_thrown i_down i_lasts v_buffer i_size i_documents v_gone v_first v_many v_authors v_sums bz v_text i_textSize i_textSteps v_other i_otherSize v_piece i_pieceSize at0 en0 vv0 hmade hbase cB k (f) (fb) hrow (fr) hln cL (fl) pq T (64 * d9 + hi6 (j + 1) r9) (by first | assumption | decide | omega) (by first | assumption | decide | omega) (by first | assumption | decide | omega) (by first | assumption | decide | omega) (by first | assumption | decide | omega) (by first | assumption | decide | omega)) (cwV 1 hw0 (gd_Vm wm_347 wm_348 wm_349 wm_243 wm_350) rfl rfl rfl (by decide +kernel) ⟨by decide +kernel, by decide +kernel⟩) (prV_E hPc hKc hDc hN (va_recv hKc hPc (ci := 7) (q0 := 0) rfl rfl)) rfl rfl hl.1 rfl (lv_room (Nat.le_of_ble_eq_true rfl)) d_O_again_48 ⟨by decide +kernel, by decide +kernel⟩) hS (fun q _ h => hFc q h) hFc (fun r_8 u t H1 locs ht hvm hw hB hz1 hk1 hS => ?_)
          obtain ⟨hP1, hK1, hD1⟩ := hB
          rw [ht] at hP1
          have hK1 := va_K.moved hvm.symm hK1
          try dsimp only at hw
          obtain ⟨hP, hD⟩ := va_join (wr := []) (w1 := [(h0, .inr (7, [.int i_thrown, .int i_down, .int i_lasts, v_buffer, .int i_size, .int i_documents, v_gone, v_first, v_many, .ref hln, v_authors, v_sums, .ref hrow, .ref hbase, .int (nI 0), .ref hmade, .int (nI k), v_text, .int i_textSize, .int i_textSteps, v_other, .int i_otherSize, v_piece, .int i_pieceSize, .int at0, .int en0, .int vv0])), (hbase, .inl (cB, 256, .inl ((fb)))), (hmade, .inl (cB, 256, .inl ((f)))), (hrow, .inl (cB, 16384, .inl ((fr)))), (hln, .inl (cL, 512, .inl ((fl))))]) hP hD [0, 1, 2, 3, 4] [] rfl rfl (by decide) (by decide) hk1 hFc hP1 hD1
          generalize H1 = H at hP hS ⊢
          replace hP : va_P (dC, dI) vwCl [(h0, .inr (7, [.int i_thrown, .int i_down, .int i_lasts, v_buffer, .int i_size, .int i_documents, v_gone, v_first, v_many, .ref hln, v_authors, v_sums, .ref hrow, .ref hbase, .int (nI 0), .ref hmade, .int (nI k), v_text, .int i_textSize, .int i_textSteps, v_other, .int i_otherSize, v_piece, .int i_pieceSize, .int at0, .int en0, .int vv0])), (hbase, .inl (cB, 256, .inl ((fb)))), (hmade, .inl (cB, 256, .inl ((f)))), (hrow, .inl (cB, 16384, .inl ((fr)))), (hln, .inl (cL, 512, .inl ((fl))))] H := hP
          replace hD : va_D A [(h0, .inr (7, [.int i_thrown, .int i_down, .int i_lasts, v_buffer, .int i_size, .int i_documents, v_gone, v_first, v_many, .ref hln, v_authors, v_sums, .ref hrow, .ref hbase, .int (nI 0), .ref hmade, .int (nI k), v_text, .int i_textSize, .int i_textSteps, v_other, .int i_otherSize, v_piece, .int i_pieceSize, .int at0, .int en0, .int vv0])), (hbase, .inl (cB, 256, .inl ((fb)))), (hmade, .inl (cB, 256, .inl ((f)))), (hrow, .inl (cB, 16384, .inl ((fr)))), (hln, .inl (cL, 512, .inl ((fl))))] := hD
          replace hK : va_K (dC, dI) vwCl [(cB, .byte), (cL, .short)] s := hK
          obtain rfl : r_8 = 0 := hw
          · have hz9 := hbad
            refine lv_if_ne (tgt := 56) hx hb d_O_again_51 (by decide) (fun h9 => absurd h9 (by decide +kernel)) (fun _ => ?_)
            exact kk2 hbase hmade 0 (fb) (f) (nI k) at0 en0 vv0 ([]) (tx_nil _) (by omega) hbad _ _ (hP.sub (ws' := [(h0, .inr (7, [.int i_thrown, .int i_down, .int i_lasts, v_buffer, .int i_size, .int i_documents, v_gone, v_first, v_many, .ref hln, v_authors, v_sums, .ref hrow, .ref hbase, .int (nI 0), .ref hmade, .int (nI k), v_text, .int i_textSize, .int i_textSteps, v_other, .int i_otherSize, v_piece, .int i_pieceSize, .int at0, .int en0, .int vv0])), (hbase, .inl (cB, 256, .inl ((fb)))), (hmade, .inl (cB, 256, .inl ((f)))), (hrow, .inl (cB, 16384, .inl ((fr)))), (hln, .inl (cL, 512, .inl ((fl))))]) [0, 1, 2, 3, 4] rfl) (hD.sub (ws' := [(h0, .inr (7, [.int i_thrown, .int i_down, .int i_lasts, v_buffer, .int i_size, .int i_documents, v_gone, v_first, v_many, .ref hln, v_authors, v_sums, .ref hrow, .ref hbase, .int (nI 0), .ref hmade, .int (nI k), v_text, .int i_textSize, .int i_textSteps, v_other, .int i_otherSize, v_piece, .int i_pieceSize, .int at0, .int en0, .int vv0])), (hbase, .inl (cB, 256, .inl ((fb)))), (hmade, .inl (cB, 256, .inl ((f)))), (hrow, .inl (cB, 16384, .inl ((fr)))), (hln, .inl (cL, 512, .inl ((fl))))]) [0, 1, 2, 3, 4] (by decide) rfl) hS ls (lv_sub hl [2] rfl)
        · have hS9 := hp9
          refine lv_aload_n hx hb d_O_again_41 rfl (lv_at hl 2 rfl) ?_
          refine lv_bipush (v := 64) hx hb d_O_again_42 (by decide +kernel) ?_
          refine lv_iload_n hx hb d_O_again_44 rfl (lv_at hl 3 rfl) ?_
          refine lv_imul hx hb d_O_again_45 ?_
          refine lv_topi (fun x_10 ex_10 => ?_)
          obtain rfl : x_10 = (nI (64 * d9)) := by rw [ex_10]; exact (show nI 64 * nI d9 = nI (64 * d9) from pk_mul _ _)
          clear ex_10
          refine lv_iload_n hx hb d_O_again_46 rfl (lv_at hl 0 rfl) ?_
          refine lv_iadd hx hb d_O_again_47 ?_
          refine lv_topi (fun x_11 ex_11 => ?_)
          obtain rfl : x_11 = (nI (64 * d9 + hi6 (j + 1) r9)) := by rw [ex_11]; exact nI_add _ _
          clear ex_11
          have hPc := hP.sub (ws' := [(h0, .inr (7, [.int i_thrown, .int i_down, .int i_lasts, v_buffer, .int i_size, .int i_documents, v_gone, v_first, v_many, .ref hln, v_authors, v_sums, .ref hrow, .ref hmade, .int (nI k), .ref hbase, .int bz, v_text, .int i_textSize, .int i_textSteps, v_other, .int i_otherSize, v_piece, .int i_pieceSize, .int at0, .int en0, .int vv0])), (hmade, .inl (cB, 256, .inl ((f)))), (hbase, .inl (cB, 256, .inl ((fb)))), (hrow, .inl (cB, 16384, .inl ((fr)))), (hln, .inl (cL, 512, .inl ((fl))))]) [0, 1, 2, 3, 4] rfl
          have hKc := hK.sub (tys' := [(cB, .byte), (cL, .short)]) [0, 1] rfl
          have hDc := hD.sub (ws' := [(h0, .inr (7, [.int i_thrown, .int i_down, .int i_lasts, v_buffer, .int i_size, .int i_documents, v_gone, v_first, v_many, .ref hln, v_authors, v_sums, .ref hrow, .ref hmade, .int (nI k), .ref hbase, .int bz, v_text, .int i_textSize, .int i_textSteps, v_other, .int i_otherSize, v_piece, .int i_pieceSize, .int at0, .int en0, .int vv0])), (hmade, .inl (cB, 256, .inl ((f)))), (hbase, .inl (cB, 256, .inl ((fb)))), (hrow, .inl (cB, 16384, .inl ((fr)))), (hln, .inl (cL, 512, .inl ((fl))))]) [0, 1, 2, 3, 4] (by decide) rfl
          have hFc := va_free (wc := [(h0, .inr (7, [.int i_thrown, .int i_down, .int i_lasts, v_buffer, .int i_size, .int i_documents, v_gone, v_first, v_many, .ref hln, v_authors, v_sums, .ref hrow, .ref hmade, .int (nI k), .ref hbase, .int bz, v_text, .int i_textSize, .int i_textSteps, v_other, .int i_otherSize, v_piece, .int i_pieceSize, .int at0, .int en0, .int vv0])), (hmade, .inl (cB, 256, .inl ((f)))), (hbase, .inl (cB, 256, .inl ((fb)))), (hrow, .inl (cB, 16384, .inl ((fr)))), (hln, .inl (cL, 512, .inl ((fl))))]) hD hS hA [0, 1, 2, 3, 4] rfl
          refine va_calli (va_runV (As := [.int (nI (64 * d9 + hi6 (j + 1) r9))]) (rest := []) ⟨hx, hb, hml, hown, hw0⟩ (o_makes_S l dC dI H.size h0 i_thrown i_down i_lasts v_buffer i_size i_documents v_gone v_first v_many v_authors v_sums bz v_text i_textSize i_textSteps v_other i_otherSize v_piece i_pieceSize at0 en0 vv0 hmade hbase cB k (f) (fb) hrow (fr) hln cL (fl) pq T (64 * d9 + hi6 (j + 1) r9) S9 (by first | assumption | decide | omega) (by first | assumption | decide | omega) (by first | assumption | decide | omega) (by first | assumption | decide | omega) (by first | assumption | decide | omega) (by first | assumption | decide | omega)) (cwV 1 hw0 (gd_Vm wm_347 wm_348 wm_349 wm_243 wm_350) rfl rfl rfl (by decide +kernel) ⟨by decide +kernel, by decide +kernel⟩) (prV_E hPc hKc hDc hN (va_recv hKc hPc (ci := 7) (q0 := 0) rfl rfl)) rfl rfl hl.1 rfl (lv_room (Nat.le_of_ble_eq_true rfl)) d_O_again_48 ⟨by decide +kernel, by decide +kernel⟩) hS (fun q _ h => hFc q h) hFc (fun r_12 u t H1 locs ht hvm hw hB hz1 hk1 hS => ?_)
          obtain ⟨k2_13, f2_14, T2_15, at2_16, en2_17, vv2_18, ⟨hu_19_0, hu_19_1⟩, hP1, hK1, hD1⟩ := hB
          rw [ht] at hP1
          have hK1 := va_K.moved hvm.symm hK1
          try dsimp only at hw
          obtain ⟨hP, hD⟩ := va_join (wr := []) (w1 := [(h0, .inr (7, [.int i_thrown, .int i_down, .int i_lasts, v_buffer, .int i_size, .int i_documents, v_gone, v_first, v_many, .ref hln, v_authors, v_sums, .ref hrow, .ref hbase, .int (nI k2_13), .ref hmade, .int (nI k), v_text, .int i_textSize, .int i_textSteps, v_other, .int i_otherSize, v_piece, .int i_pieceSize, .int at2_16, .int en2_17, .int vv2_18])), (hbase, .inl (cB, 256, .inl (f2_14))), (hmade, .inl (cB, 256, .inl ((f)))), (hrow, .inl (cB, 16384, .inl ((fr)))), (hln, .inl (cL, 512, .inl ((fl))))]) hP hD [0, 1, 2, 3, 4] [] rfl rfl (by decide) (by decide) hk1 hFc hP1 hD1
          generalize H1 = H at hP hS ⊢
          replace hP : va_P (dC, dI) vwCl [(h0, .inr (7, [.int i_thrown, .int i_down, .int i_lasts, v_buffer, .int i_size, .int i_documents, v_gone, v_first, v_many, .ref hln, v_authors, v_sums, .ref hrow, .ref hbase, .int (nI k2_13), .ref hmade, .int (nI k), v_text, .int i_textSize, .int i_textSteps, v_other, .int i_otherSize, v_piece, .int i_pieceSize, .int at2_16, .int en2_17, .int vv2_18])), (hbase, .inl (cB, 256, .inl (f2_14))), (hmade, .inl (cB, 256, .inl ((f)))), (hrow, .inl (cB, 16384, .inl ((fr)))), (hln, .inl (cL, 512, .inl ((fl))))] H := hP
          replace hD : va_D A [(h0, .inr (7, [.int i_thrown, .int i_down, .int i_lasts, v_buffer, .int i_size, .int i_documents, v_gone, v_first, v_many, .ref hln, v_authors, v_sums, .ref hrow, .ref hbase, .int (nI k2_13), .ref hmade, .int (nI k), v_text, .int i_textSize, .int i_textSteps, v_other, .int i_otherSize, v_piece, .int i_pieceSize, .int at2_16, .int en2_17, .int vv2_18])), (hbase, .inl (cB, 256, .inl (f2_14))), (hmade, .inl (cB, 256, .inl ((f)))), (hrow, .inl (cB, 16384, .inl ((fr)))), (hln, .inl (cL, 512, .inl ((fl))))] := hD
          replace hK : va_K (dC, dI) vwCl [(cB, .byte), (cL, .short)] s := hK
          have hw_20 := hw
          rcases hm9 : mak S9 T with _ | Y9
          · rw [hm9] at hw_20; obtain rfl : r_12 = 0 := hw_20
            have hbad : agn (pqF pq d9) r9 = none := agJ_none (j := j + 1) (by rw [agJ_step hd8, hf2, stp6_s (show (pqF pq d9) (hi6 (j + 1) r9) = some S9 from hp9)]; exact hm9) 6 (by omega)
            refine lv_if_ne (tgt := 56) hx hb d_O_again_51 (by decide) (fun h9 => absurd h9 (by decide +kernel)) (fun _ => ?_)
            exact kk2 hbase hmade k2_13 f2_14 (f) (nI k) at2_16 en2_17 vv2_18 T2_15 hu_19_0.1 hu_19_0.2 hbad _ _ (hP.sub (ws' := [(h0, .inr (7, [.int i_thrown, .int i_down, .int i_lasts, v_buffer, .int i_size, .int i_documents, v_gone, v_first, v_many, .ref hln, v_authors, v_sums, .ref hrow, .ref hbase, .int (nI k2_13), .ref hmade, .int (nI k), v_text, .int i_textSize, .int i_textSteps, v_other, .int i_otherSize, v_piece, .int i_pieceSize, .int at2_16, .int en2_17, .int vv2_18])), (hbase, .inl (cB, 256, .inl (f2_14))), (hmade, .inl (cB, 256, .inl ((f)))), (hrow, .inl (cB, 16384, .inl ((fr)))), (hln, .inl (cL, 512, .inl ((fl))))]) [0, 1, 2, 3, 4] rfl) (hD.sub (ws' := [(h0, .inr (7, [.int i_thrown, .int i_down, .int i_lasts, v_buffer, .int i_size, .int i_documents, v_gone, v_first, v_many, .ref hln, v_authors, v_sums, .ref hrow, .ref hbase, .int (nI k2_13), .ref hmade, .int (nI k), v_text, .int i_textSize, .int i_textSteps, v_other, .int i_otherSize, v_piece, .int i_pieceSize, .int at2_16, .int en2_17, .int vv2_18])), (hbase, .inl (cB, 256, .inl (f2_14))), (hmade, .inl (cB, 256, .inl ((f)))), (hrow, .inl (cB, 16384, .inl ((fr)))), (hln, .inl (cL, 512, .inl ((fl))))]) [0, 1, 2, 3, 4] (by decide) rfl) hS ls (lv_sub hl [2] rfl)
          · rw [hm9] at hw_20; obtain rfl : r_12 = 1 := hw_20; obtain rfl := hu_19_1 Y9 hm9
            refine lv_if_ne (tgt := 56) hx hb d_O_again_51 (by decide) (fun _ => ?_) (fun h9 => absurd h9 (by decide +kernel))
            refine lv_iload hx hb d_O_again_56 (lv_at hl 1 rfl) ?_
            refine lv_iconst (v := 2) hx hb d_O_again_58 (by decide) ?_
            refine lv_idiv hx hb d_O_again_59 (by decide +kernel) ?_
            refine lv_topi (fun x_21 ex_21 => ?_)
            obtain rfl : x_21 = (nI (bt6 (j + 1))) := by rw [ex_21]; rw [← hb9.2.2.2.2.1]; exact (show nI (bt6 j) / nI 2 = nI (bt6 j / 2) from pk_div (by omega) (by decide) (by decide))
            clear ex_21
            refine lv_istore (lv' := [(4, .int (nI (bt6 (j + 1)))), (3, .int (nI (hi6 (j + 1) r9))), (0, .ref h0), (1, .int (nI d9)), (2, .int (nI r9))]) hx hb d_O_again_60 hl (by decide) rfl (fun ls hl => ?_)
            refine lv_goto (tgt := 24) hx hb d_O_again_62 (by decide) ?_
            exact ih (j + 1) hlt (by omega) hbase hmade k2_13 f2_14 (f) (nI k) at2_16 en2_17 vv2_18 T2_15 hu_19_0.1 hu_19_0.2 (by rw [agJ_step hd8, hf2, stp6_s (show (pqF pq d9) (hi6 (j + 1) r9) = some S9 from hp9)]; exact hm9) _ _ (hP.sub (ws' := [(h0, .inr (7, [.int i_thrown, .int i_down, .int i_lasts, v_buffer, .int i_size, .int i_documents, v_gone, v_first, v_many, .ref hln, v_authors, v_sums, .ref hrow, .ref hbase, .int (nI k2_13), .ref hmade, .int (nI k), v_text, .int i_textSize, .int i_textSteps, v_other, .int i_otherSize, v_piece, .int i_pieceSize, .int at2_16, .int en2_17, .int vv2_18])), (hbase, .inl (cB, 256, .inl (f2_14))), (hmade, .inl (cB, 256, .inl ((f)))), (hrow, .inl (cB, 16384, .inl ((fr)))), (hln, .inl (cL, 512, .inl ((fl))))]) [0, 1, 2, 3, 4] rfl) (hD.sub (ws' := [(h0, .inr (7, [.int i_thrown, .int i_down, .int i_lasts, v_buffer, .int i_size, .int i_documents, v_gone, v_first, v_many, .ref hln, v_authors, v_sums, .ref hrow, .ref hbase, .int (nI k2_13), .ref hmade, .int (nI k), v_text, .int i_textSize, .int i_textSteps, v_other, .int i_otherSize, v_piece, .int i_pieceSize, .int at2_16, .int en2_17, .int vv2_18])), (hbase, .inl (cB, 256, .inl (f2_14))), (hmade, .inl (cB, 256, .inl ((f)))), (hrow, .inl (cB, 16384, .inl ((fr)))), (hln, .inl (cL, 512, .inl ((fl))))]) [0, 1, 2, 3, 4] (by decide) rfl) hS ls (lv_sub hl [0, 1, 2, 3, 4] rfl)
set_option maxHeartbeats 4000000 in
set_option maxRecDepth 100000 in
theorem o_again_S (l : Launch) (dC : Nat → ClassId) (dI : Nat → Nat → Nat) (sz : Nat) (h0 : Nat) (i_thrown : Int32) (i_down : Int32) (i_lasts : Int32) (v_buffer : Value) (i_size : Int32) (i_documents : Int32) (v_gone : Value) (v_first : Value) (v_many : Value) (v_authors : Value) (v_sums : Value) (mz : Int32) (bz : Int32) (v_text : Value) (i_textSize : Int32) (i_textSteps : Int32) (v_other : Value) (i_otherSize : Int32) (v_piece : Value) (i_pieceSize : Int32) (at0 : Int32) (en0 : Int32) (vv0 : Int32) (hmade : Nat) (hbase : Nat) (cB : ClassId) (f : Nat → Int32) (fb : Nat → Int32) (hrow : Nat) (fr : Nat → Int32) (hln : Nat) (cL : ClassId) (fl : Nat → Int32) (pq : Nat → Option (List Int32)) (d9 : Nat) (r9 : Nat) (Y : List Int32) (hfl : ∀ j, j < 512 → fl j = vI (lnq pq j)) (hrw : rowOk pq fr) (hd9 : d9 < 8) (hr9 : r9 < 64) (hag : agn (pqF pq d9) r9 = some Y) : Met l y_O_again k_O_again ({ frames := 3, cells := 0, slots := 0, locals := 68 } : Room) (va_Pc [.ref h0, .int (nI d9), .int (nI r9)] (pc_E (dC, dI) [(h0, .inr (7, [.int i_thrown, .int i_down, .int i_lasts, v_buffer, .int i_size, .int i_documents, v_gone, v_first, v_many, .ref hln, v_authors, v_sums, .ref hrow, .ref hmade, .int mz, .ref hbase, .int bz, v_text, .int i_textSize, .int i_textSteps, v_other, .int i_otherSize, v_piece, .int i_pieceSize, .int at0, .int en0, .int vv0])), (hmade, .inl (cB, 256, .inl (f))), (hbase, .inl (cB, 256, .inl (fb))), (hrow, .inl (cB, 16384, .inl (fr))), (hln, .inl (cL, 512, .inl (fl)))] [(cB, .byte), (cL, .short)] sz)) (va_Qi (fun (r : Int32) (_ : Unit) => r = 1) (fun (_ : Unit) t => ∃ (hmade2 : Nat) (hbase2 : Nat) (k2 : Nat) (f2 : Nat → Int32) (fb2 : Nat → Int32) (bz2 : Int32) (at2 : Int32) (en2 : Int32) (vv2 : Int32), (tx Y k2 f2 ∧ k2 ≤ 256) ∧ at_E (dC, dI) (va_A [(h0, .inr (7, [.int i_thrown, .int i_down, .int i_lasts, v_buffer, .int i_size, .int i_documents, v_gone, v_first, v_many, .ref hln, v_authors, v_sums, .ref hrow, .ref hmade, .int mz, .ref hbase, .int bz, v_text, .int i_textSize, .int i_textSteps, v_other, .int i_otherSize, v_piece, .int i_pieceSize, .int at0, .int en0, .int vv0])), (hmade, .inl (cB, 256, .inl (f))), (hbase, .inl (cB, 256, .inl (fb))), (hrow, .inl (cB, 16384, .inl (fr))), (hln, .inl (cL, 512, .inl (fl)))] sz) [(h0, .inr (7, [.int i_thrown, .int i_down, .int i_lasts, v_buffer, .int i_size, .int i_documents, v_gone, v_first, v_many, .ref hln, v_authors, v_sums, .ref hrow, .ref hmade2, .int (nI k2), .ref hbase2, .int bz2, v_text, .int i_textSize, .int i_textSteps, v_other, .int i_otherSize, v_piece, .int i_pieceSize, .int at2, .int en2, .int vv2])), (hmade2, .inl (cB, 256, .inl (f2))), (hbase2, .inl (cB, 256, .inl (fb2))), (hrow, .inl (cB, 16384, .inl (fr))), (hln, .inl (cL, 512, .inl (fl)))] [(cB, .byte), (cL, .short)] t) (va_A [(h0, .inr (7, [.int i_thrown, .int i_down, .int i_lasts, v_buffer, .int i_size, .int i_documents, v_gone, v_first, v_many, .ref hln, v_authors, v_sums, .ref hrow, .ref hmade, .int mz, .ref hbase, .int bz, v_text, .int i_textSize, .int i_textSteps, v_other, .int i_otherSize, v_piece, .int i_pieceSize, .int at0, .int en0, .int vv0])), (hmade, .inl (cB, 256, .inl (f))), (hbase, .inl (cB, 256, .inl (fb))), (hrow, .inl (cB, 16384, .inl (fr))), (hln, .inl (cL, 512, .inl (fl)))] sz)) 0 0 (va_A [(h0, .inr (7, [.int i_thrown, .int i_down, .int i_lasts, v_buffer, .int i_size, .int i_documents, v_gone, v_first, v_many, .ref hln, v_authors, v_sums, .ref hrow, .ref hmade, .int mz, .ref hbase, .int bz, v_text, .int i_textSize, .int i_textSteps, v_other, .int i_otherSize, v_piece, .int i_pieceSize, .int at0, .int en0, .int vv0])), (hmade, .inl (cB, 256, .inl (f))), (hbase, .inl (cB, 256, .inl (fb))), (hrow, .inl (cB, 16384, .inl (fr))), (hln, .inl (cL, 512, .inl (fl)))] sz) := by
  refine Met.ofW (cc := prog_9_method_20_code) (maxL := 5) (ret := (some .boolean)) (by decide) rfl ?_
  intro p e s m args below meth c s₁ B hml hv
  obtain ⟨rfl, hsz, hP, hK, hD0, hN⟩ := hv
  have hx := B.exec
  have hb := B.bytes
  have hr := B.returns
  have hts := atoms_spec (ws := k_O_again) B.pre
  have hw0 : ∀ w ∈ w0, w.before _ s = true := fun w h => hts w (List.mem_cons_of_mem _ h)
  have hown : s.vm.findClass R_O = some m.cls := findClass_of_methodNamed B.named
  have hlocks := B.notSynchronized
  subst hsz
  have hD := hD0.self (sz := s.heap.size)
  generalize hAe : va_A [(h0, .inr (7, [.int i_thrown, .int i_down, .int i_lasts, v_buffer, .int i_size, .int i_documents, v_gone, v_first, v_many, .ref hln, v_authors, v_sums, .ref hrow, .ref hmade, .int mz, .ref hbase, .int bz, v_text, .int i_textSize, .int i_textSteps, v_other, .int i_otherSize, v_piece, .int i_pieceSize, .int at0, .int en0, .int vv0])), (hmade, .inl (cB, 256, .inl (f))), (hbase, .inl (cB, 256, .inl (fb))), (hrow, .inl (cB, 16384, .inl (fr))), (hln, .inl (cL, 512, .inl (fl)))] s.heap.size = A at hD ⊢
  have hA : ∀ q : Nat, s.heap.size ≤ q → A q := fun q h => by rw [← hAe]; exact Or.inr h
  have hS : va_S A s.heap s.heap [] := va_S.rf
  have hP : va_P (dC, dI) vwCl [(h0, .inr (7, [.int i_thrown, .int i_down, .int i_lasts, v_buffer, .int i_size, .int i_documents, v_gone, v_first, v_many, .ref hln, v_authors, v_sums, .ref hrow, .ref hmade, .int mz, .ref hbase, .int bz, v_text, .int i_textSize, .int i_textSteps, v_other, .int i_otherSize, v_piece, .int i_pieceSize, .int at0, .int en0, .int vv0])), (hmade, .inl (cB, 256, .inl (f))), (hbase, .inl (cB, 256, .inl (fb))), (hrow, .inl (cB, 16384, .inl (fr))), (hln, .inl (cL, 512, .inl (fl)))] s.heap := hP
  have hl := lv_entry ([.ref h0, .int (nI d9), .int (nI r9)]) (n := 5) (Nat.le_of_ble_eq_true rfl)
  rw [lg_entry_eq]
  generalize (lg_sl ([.ref h0, .int (nI d9), .int (nI r9)]) ++ List.replicate (5 - (lg_sl ([.ref h0, .int (nI d9), .int (nI r9)])).length) Slot.unset).toArray = ls at hl ⊢
  have hl : lv_has ls 5 [(0, .ref h0), (1, .int (nI d9)), (2, .int (nI r9))] := hl
  refine lv_aload_n hx hb d_O_again_0 rfl (lv_at hl 0 rfl) ?_
  refine lv_iconst (v := 0) hx hb d_O_again_1 (by decide) ?_
  refine va_put (D := (dC, dI)) (ci := 7) (v := .int 0) (ty := .int) (C := R_O) (T := F_O) (N := 27) hx hb hw0 in_O ft_O tk_O nk_O hown hK hP hD hS 0 rfl rfl 14 (by decide) (hw0 (.fieldLink R_O 113 "TextKeeperModel" "madeSize" "I") wm_246) (fun _ h9 => h9) rfl (by decide +kernel) rfl rfl (Nat.le_of_ble_eq_true rfl) d_O_again_2 (fun H locs hP hD hS => ?_)
  replace hP : va_P (dC, dI) vwCl [(h0, .inr (7, [.int i_thrown, .int i_down, .int i_lasts, v_buffer, .int i_size, .int i_documents, v_gone, v_first, v_many, .ref hln, v_authors, v_sums, .ref hrow, .ref hmade, .int 0, .ref hbase, .int bz, v_text, .int i_textSize, .int i_textSteps, v_other, .int i_otherSize, v_piece, .int i_pieceSize, .int at0, .int en0, .int vv0])), (hmade, .inl (cB, 256, .inl (f))), (hbase, .inl (cB, 256, .inl (fb))), (hrow, .inl (cB, 16384, .inl (fr))), (hln, .inl (cL, 512, .inl (fl)))] H := hP
  replace hD : va_D A [(h0, .inr (7, [.int i_thrown, .int i_down, .int i_lasts, v_buffer, .int i_size, .int i_documents, v_gone, v_first, v_many, .ref hln, v_authors, v_sums, .ref hrow, .ref hmade, .int 0, .ref hbase, .int bz, v_text, .int i_textSize, .int i_textSteps, v_other, .int i_otherSize, v_piece, .int i_pieceSize, .int at0, .int en0, .int vv0])), (hmade, .inl (cB, 256, .inl (f))), (hbase, .inl (cB, 256, .inl (fb))), (hrow, .inl (cB, 16384, .inl (fr))), (hln, .inl (cL, 512, .inl (fl)))] := hD
  have h0t : tx [] 0 f := tx_nil _
  rcases hp9 : pq (64 * d9 + 0) with _ | S9
  · have hbad : agn (pqF pq d9) r9 = none := agJ_none (j := 0) (stp6_n hp9) 6 (by omega)
    exact absurd (hbad.symm.trans hag) (fun q => by cases q)
  · have hS9 := hp9
    refine lv_aload_n hx hb d_O_again_5 rfl (lv_at hl 0 rfl) ?_
    refine lv_bipush (v := 64) hx hb d_O_again_6 (by decide +kernel) ?_
    refine lv_iload_n hx hb d_O_again_8 rfl (lv_at hl 1 rfl) ?_
    refine lv_imul hx hb d_O_again_9 ?_
    refine lv_topi (fun x_1 ex_1 => ?_)
    obtain rfl : x_1 = (nI (64 * d9 + 0)) := by rw [ex_1]; exact (show nI 64 * nI d9 = nI (64 * d9) from pk_mul _ _)
    clear ex_1
    have hPc := hP.sub (ws' := [(h0, .inr (7, [.int i_thrown, .int i_down, .int i_lasts, v_buffer, .int i_size, .int i_documents, v_gone, v_first, v_many, .ref hln, v_authors, v_sums, .ref hrow, .ref hmade, .int (nI 0), .ref hbase, .int bz, v_text, .int i_textSize, .int i_textSteps, v_other, .int i_otherSize, v_piece, .int i_pieceSize, .int at0, .int en0, .int vv0])), (hmade, .inl (cB, 256, .inl ((f)))), (hbase, .inl (cB, 256, .inl ((fb)))), (hrow, .inl (cB, 16384, .inl ((fr)))), (hln, .inl (cL, 512, .inl ((fl))))]) [0, 1, 2, 3, 4] rfl
    have hKc := hK.sub (tys' := [(cB, .byte), (cL, .short)]) [0, 1] rfl
    have hDc := hD.sub (ws' := [(h0, .inr (7, [.int i_thrown, .int i_down, .int i_lasts, v_buffer, .int i_size, .int i_documents, v_gone, v_first, v_many, .ref hln, v_authors, v_sums, .ref hrow, .ref hmade, .int (nI 0), .ref hbase, .int bz, v_text, .int i_textSize, .int i_textSteps, v_other, .int i_otherSize, v_piece, .int i_pieceSize, .int at0, .int en0, .int vv0])), (hmade, .inl (cB, 256, .inl ((f)))), (hbase, .inl (cB, 256, .inl ((fb)))), (hrow, .inl (cB, 16384, .inl ((fr)))), (hln, .inl (cL, 512, .inl ((fl))))]) [0, 1, 2, 3, 4] (by decide) rfl
    have hFc := va_free (wc := [(h0, .inr (7, [.int i_thrown, .int i_down, .int i_lasts, v_buffer, .int i_size, .int i_documents, v_gone, v_first, v_many, .ref hln, v_authors, v_sums, .ref hrow, .ref hmade, .int (nI 0), .ref hbase, .int bz, v_text, .int i_textSize, .int i_textSteps, v_other, .int i_otherSize, v_piece, .int i_pieceSize, .int at0, .int en0, .int vv0])), (hmade, .inl (cB, 256, .inl ((f)))), (hbase, .inl (cB, 256, .inl ((fb)))), (hrow, .inl (cB, 16384, .inl ((fr)))), (hln, .inl (cL, 512, .inl ((fl))))]) hD hS hA [0, 1, 2, 3, 4] rfl
    refine va_calli (va_runV (As := [.int (nI (64 * d9 + 0))]) (rest := []) ⟨hx, hb, hml, hown, hw0⟩ (o_makes_S l dC dI H.size h0 i_thrown i_down i_lasts v_buffer i_size i_documents v_gone v_first v_many v_authors v_sums bz v_text i_textSize i_textSteps v_other i_otherSize v_piece i_pieceSize at0 en0 vv0 hmade hbase cB 0 (f) (fb) hrow (fr) hln cL (fl) pq ([]) (64 * d9 + 0) S9 (by first | assumption | decide | omega) (by first | assumption | decide | omega) (by first | assumption | decide | omega) (by first | assumption | decide | omega) (by first | assumption | decide | omega) (by first | assumption | decide | omega)) (cwV 1 hw0 (gd_Vm wm_347 wm_348 wm_349 wm_243 wm_350) rfl rfl rfl (by decide +kernel) ⟨by decide +kernel, by decide +kernel⟩) (prV_E hPc hKc hDc hN (va_recv hKc hPc (ci := 7) (q0 := 0) rfl rfl)) rfl rfl hl.1 rfl (lv_room (Nat.le_of_ble_eq_true rfl)) d_O_again_10 ⟨by decide +kernel, by decide +kernel⟩) hS (fun q _ h => hFc q h) hFc (fun r_2 u t H1 locs ht hvm hw hB hz1 hk1 hS => ?_)
    obtain ⟨k2_3, f2_4, T2_5, at2_6, en2_7, vv2_8, ⟨hu_9_0, hu_9_1⟩, hP1, hK1, hD1⟩ := hB
    rw [ht] at hP1
    have hK1 := va_K.moved hvm.symm hK1
    try dsimp only at hw
    obtain ⟨hP, hD⟩ := va_join (wr := []) (w1 := [(h0, .inr (7, [.int i_thrown, .int i_down, .int i_lasts, v_buffer, .int i_size, .int i_documents, v_gone, v_first, v_many, .ref hln, v_authors, v_sums, .ref hrow, .ref hbase, .int (nI k2_3), .ref hmade, .int (nI 0), v_text, .int i_textSize, .int i_textSteps, v_other, .int i_otherSize, v_piece, .int i_pieceSize, .int at2_6, .int en2_7, .int vv2_8])), (hbase, .inl (cB, 256, .inl (f2_4))), (hmade, .inl (cB, 256, .inl ((f)))), (hrow, .inl (cB, 16384, .inl ((fr)))), (hln, .inl (cL, 512, .inl ((fl))))]) hP hD [0, 1, 2, 3, 4] [] rfl rfl (by decide) (by decide) hk1 hFc hP1 hD1
    generalize H1 = H at hP hS ⊢
    replace hP : va_P (dC, dI) vwCl [(h0, .inr (7, [.int i_thrown, .int i_down, .int i_lasts, v_buffer, .int i_size, .int i_documents, v_gone, v_first, v_many, .ref hln, v_authors, v_sums, .ref hrow, .ref hbase, .int (nI k2_3), .ref hmade, .int (nI 0), v_text, .int i_textSize, .int i_textSteps, v_other, .int i_otherSize, v_piece, .int i_pieceSize, .int at2_6, .int en2_7, .int vv2_8])), (hbase, .inl (cB, 256, .inl (f2_4))), (hmade, .inl (cB, 256, .inl ((f)))), (hrow, .inl (cB, 16384, .inl ((fr)))), (hln, .inl (cL, 512, .inl ((fl))))] H := hP
    replace hD : va_D A [(h0, .inr (7, [.int i_thrown, .int i_down, .int i_lasts, v_buffer, .int i_size, .int i_documents, v_gone, v_first, v_many, .ref hln, v_authors, v_sums, .ref hrow, .ref hbase, .int (nI k2_3), .ref hmade, .int (nI 0), v_text, .int i_textSize, .int i_textSteps, v_other, .int i_otherSize, v_piece, .int i_pieceSize, .int at2_6, .int en2_7, .int vv2_8])), (hbase, .inl (cB, 256, .inl (f2_4))), (hmade, .inl (cB, 256, .inl ((f)))), (hrow, .inl (cB, 16384, .inl ((fr)))), (hln, .inl (cL, 512, .inl ((fl))))] := hD
    replace hK : va_K (dC, dI) vwCl [(cB, .byte), (cL, .short)] s := hK
    have hw_10 := hw
    rcases hm9 : mak S9 [] with _ | Y9
    · rw [hm9] at hw_10; obtain rfl : r_2 = 0 := hw_10
      have hbad : agn (pqF pq d9) r9 = none := agJ_none (j := 0) (by show stp6 _ (some []) 0 = none; rw [stp6_s (show (pqF pq d9) 0 = some S9 from hp9)]; exact hm9) 6 (by omega)
      exact absurd (hbad.symm.trans hag) (fun q => by cases q)
    · rw [hm9] at hw_10; obtain rfl : r_2 = 1 := hw_10; obtain rfl := hu_9_1 Y9 hm9
      refine lv_if_ne (tgt := 18) hx hb d_O_again_13 (by decide) (fun _ => ?_) (fun h9 => absurd h9 (by decide +kernel))
      refine lv_iconst (v := 0) hx hb d_O_again_18 (by decide) ?_
      refine lv_istore_n (lv' := [(3, .int 0), (0, .ref h0), (1, .int (nI d9)), (2, .int (nI r9))]) hx hb d_O_again_19 rfl hl (by decide) rfl (fun ls hl => ?_)
      refine lv_bipush (v := 32) hx hb d_O_again_20 (by decide +kernel) ?_
      refine lv_istore (lv' := [(4, .int 32), (3, .int 0), (0, .ref h0), (1, .int (nI d9)), (2, .int (nI r9))]) hx hb d_O_again_22 hl (by decide) rfl (fun ls hl => ?_)
      refine lo_aga h0 i_thrown i_down i_lasts v_buffer i_size i_documents v_gone v_first v_many v_authors v_sums v_text i_textSize i_textSteps v_other i_otherSize v_piece i_pieceSize cB hrow fr hln cL fl pq d9 r9 hfl hrw hd9 hr9 hx hb hml hown hw0 hN hK hA (fun hmade8 hbase8 k8 f8 fb8 bz8 at08 en08 vv08 T8 g0 g1 g2 H locs hP hD hS ls hl => ?_) (fun hmade8 hbase8 k8 f8 fb8 bz8 at08 en08 vv08 T8 g0 g1 g2 H locs hP hD hS ls hl => ?_) 7 0 (by omega) (by omega) hbase hmade k2_3 f2_4 (f) (nI 0) at2_6 en2_7 vv2_8 T2_5 hu_9_0.1 hu_9_0.2 (by show stp6 _ (some []) 0 = _; rw [stp6_s (show (pqF pq d9) 0 = some S9 from hp9)]; exact hm9) _ _ (hP.sub (ws' := [(h0, .inr (7, [.int i_thrown, .int i_down, .int i_lasts, v_buffer, .int i_size, .int i_documents, v_gone, v_first, v_many, .ref hln, v_authors, v_sums, .ref hrow, .ref hbase, .int (nI k2_3), .ref hmade, .int (nI 0), v_text, .int i_textSize, .int i_textSteps, v_other, .int i_otherSize, v_piece, .int i_pieceSize, .int at2_6, .int en2_7, .int vv2_8])), (hbase, .inl (cB, 256, .inl (f2_4))), (hmade, .inl (cB, 256, .inl ((f)))), (hrow, .inl (cB, 16384, .inl ((fr)))), (hln, .inl (cL, 512, .inl ((fl))))]) [0, 1, 2, 3, 4] rfl) (hD.sub (ws' := [(h0, .inr (7, [.int i_thrown, .int i_down, .int i_lasts, v_buffer, .int i_size, .int i_documents, v_gone, v_first, v_many, .ref hln, v_authors, v_sums, .ref hrow, .ref hbase, .int (nI k2_3), .ref hmade, .int (nI 0), v_text, .int i_textSize, .int i_textSteps, v_other, .int i_otherSize, v_piece, .int i_pieceSize, .int at2_6, .int en2_7, .int vv2_8])), (hbase, .inl (cB, 256, .inl (f2_4))), (hmade, .inl (cB, 256, .inl ((f)))), (hrow, .inl (cB, 16384, .inl ((fr)))), (hln, .inl (cL, 512, .inl ((fl))))]) [0, 1, 2, 3, 4] (by decide) rfl) hS ls (by rw [hi6_0 (by omega), show bt6 0 = 32 from rfl]; exact (lv_sub hl [0, 1, 2, 3, 4] rfl))
      · have hl := lv_sub hl [2] rfl
        have hl : lv_has ls 5 [(0, .ref h0)] := hl
        obtain rfl := Option.some.inj (g2.symm.trans hag)
        refine lv_iconst (v := 1) hx hb d_O_again_65 (by decide) ?_
        have hP9 := hP.sub (ws' := [(h0, .inr (7, [.int i_thrown, .int i_down, .int i_lasts, v_buffer, .int i_size, .int i_documents, v_gone, v_first, v_many, .ref hln, v_authors, v_sums, .ref hrow, .ref hmade8, .int (nI k8), .ref hbase8, .int bz8, v_text, .int i_textSize, .int i_textSteps, v_other, .int i_otherSize, v_piece, .int i_pieceSize, .int at08, .int en08, .int vv08])), (hmade8, .inl (cB, 256, .inl (f8))), (hbase8, .inl (cB, 256, .inl (fb8))), (hrow, .inl (cB, 16384, .inl (fr))), (hln, .inl (cL, 512, .inl (fl)))]) [0, 1, 2, 3, 4] rfl
        have hD9 := hD.sub (ws' := [(h0, .inr (7, [.int i_thrown, .int i_down, .int i_lasts, v_buffer, .int i_size, .int i_documents, v_gone, v_first, v_many, .ref hln, v_authors, v_sums, .ref hrow, .ref hmade8, .int (nI k8), .ref hbase8, .int bz8, v_text, .int i_textSize, .int i_textSteps, v_other, .int i_otherSize, v_piece, .int i_pieceSize, .int at08, .int en08, .int vv08])), (hmade8, .inl (cB, 256, .inl (f8))), (hbase8, .inl (cB, 256, .inl (fb8))), (hrow, .inl (cB, 16384, .inl (fr))), (hln, .inl (cL, 512, .inl (fl)))]) [0, 1, 2, 3, 4] (by decide) rfl
        have hK9 := hK.sub (tys' := [(cB, .byte), (cL, .short)]) [0, 1] rfl
        exact W.zret (v := 1) (ty := .boolean) hx hb hr rfl (fun t ht hW => ⟨⟨1, (), rfl, rfl, hmade8, hbase8, k8, f8, fb8, bz8, at08, en08, vv08, ⟨g0, g1⟩, by rw [ht]; exact hP9, va_K.moved hW.alike hK9, hD9⟩, hS.F ht⟩) hS.2.2 d_O_again_66
      · exact absurd (g2.symm.trans hag) (fun q => by cases q)
set_option maxHeartbeats 4000000 in
set_option maxRecDepth 100000 in
theorem o_again_N (l : Launch) (dC : Nat → ClassId) (dI : Nat → Nat → Nat) (sz : Nat) (h0 : Nat) (i_thrown : Int32) (i_down : Int32) (i_lasts : Int32) (v_buffer : Value) (i_size : Int32) (i_documents : Int32) (v_gone : Value) (v_first : Value) (v_many : Value) (v_authors : Value) (v_sums : Value) (mz : Int32) (bz : Int32) (v_text : Value) (i_textSize : Int32) (i_textSteps : Int32) (v_other : Value) (i_otherSize : Int32) (v_piece : Value) (i_pieceSize : Int32) (at0 : Int32) (en0 : Int32) (vv0 : Int32) (hmade : Nat) (hbase : Nat) (cB : ClassId) (f : Nat → Int32) (fb : Nat → Int32) (hrow : Nat) (fr : Nat → Int32) (hln : Nat) (cL : ClassId) (fl : Nat → Int32) (pq : Nat → Option (List Int32)) (d9 : Nat) (r9 : Nat) (hfl : ∀ j, j < 512 → fl j = vI (lnq pq j)) (hrw : rowOk pq fr) (hd9 : d9 < 8) (hr9 : r9 < 64) (hag : agn (pqF pq d9) r9 = none) : Met l y_O_again k_O_again ({ frames := 3, cells := 0, slots := 0, locals := 68 } : Room) (va_Pc [.ref h0, .int (nI d9), .int (nI r9)] (pc_E (dC, dI) [(h0, .inr (7, [.int i_thrown, .int i_down, .int i_lasts, v_buffer, .int i_size, .int i_documents, v_gone, v_first, v_many, .ref hln, v_authors, v_sums, .ref hrow, .ref hmade, .int mz, .ref hbase, .int bz, v_text, .int i_textSize, .int i_textSteps, v_other, .int i_otherSize, v_piece, .int i_pieceSize, .int at0, .int en0, .int vv0])), (hmade, .inl (cB, 256, .inl (f))), (hbase, .inl (cB, 256, .inl (fb))), (hrow, .inl (cB, 16384, .inl (fr))), (hln, .inl (cL, 512, .inl (fl)))] [(cB, .byte), (cL, .short)] sz)) (va_Qi (fun (r : Int32) (_ : Unit) => r = 0) (fun (_ : Unit) t => ∃ (hmade2 : Nat) (hbase2 : Nat) (k2 : Nat) (f2 : Nat → Int32) (fb2 : Nat → Int32) (bz2 : Int32) (at2 : Int32) (en2 : Int32) (vv2 : Int32), (k2 ≤ 256) ∧ at_E (dC, dI) (va_A [(h0, .inr (7, [.int i_thrown, .int i_down, .int i_lasts, v_buffer, .int i_size, .int i_documents, v_gone, v_first, v_many, .ref hln, v_authors, v_sums, .ref hrow, .ref hmade, .int mz, .ref hbase, .int bz, v_text, .int i_textSize, .int i_textSteps, v_other, .int i_otherSize, v_piece, .int i_pieceSize, .int at0, .int en0, .int vv0])), (hmade, .inl (cB, 256, .inl (f))), (hbase, .inl (cB, 256, .inl (fb))), (hrow, .inl (cB, 16384, .inl (fr))), (hln, .inl (cL, 512, .inl (fl)))] sz) [(h0, .inr (7, [.int i_thrown, .int i_down, .int i_lasts, v_buffer, .int i_size, .int i_documents, v_gone, v_first, v_many, .ref hln, v_authors, v_sums, .ref hrow, .ref hmade2, .int (nI k2), .ref hbase2, .int bz2, v_text, .int i_textSize, .int i_textSteps, v_other, .int i_otherSize, v_piece, .int i_pieceSize, .int at2, .int en2, .int vv2])), (hmade2, .inl (cB, 256, .inl (f2))), (hbase2, .inl (cB, 256, .inl (fb2))), (hrow, .inl (cB, 16384, .inl (fr))), (hln, .inl (cL, 512, .inl (fl)))] [(cB, .byte), (cL, .short)] t) (va_A [(h0, .inr (7, [.int i_thrown, .int i_down, .int i_lasts, v_buffer, .int i_size, .int i_documents, v_gone, v_first, v_many, .ref hln, v_authors, v_sums, .ref hrow, .ref hmade, .int mz, .ref hbase, .int bz, v_text, .int i_textSize, .int i_textSteps, v_other, .int i_otherSize, v_piece, .int i_pieceSize, .int at0, .int en0, .int vv0])), (hmade, .inl (cB, 256, .inl (f))), (hbase, .inl (cB, 256, .inl (fb))), (hrow, .inl (cB, 16384, .inl (fr))), (hln, .inl (cL, 512, .inl (fl)))] sz)) 0 0 (va_A [(h0, .inr (7, [.int i_thrown, .int i_down, .int i_lasts, v_buffer, .int i_size, .int i_documents, v_gone, v_first, v_many, .ref hln, v_authors, v_sums, .ref hrow, .ref hmade, .int mz, .ref hbase, .int bz, v_text, .int i_textSize, .int i_textSteps, v_other, .int i_otherSize, v_piece, .int i_pieceSize, .int at0, .int en0, .int vv0])), (hmade, .inl (cB, 256, .inl (f))), (hbase, .inl (cB, 256, .inl (fb))), (hrow, .inl (cB, 16384, .inl (fr))), (hln, .inl (cL, 512, .inl (fl)))] sz) := by
  refine Met.ofW (cc := prog_9_method_20_code) (maxL := 5) (ret := (some .boolean)) (by decide) rfl ?_
  intro p e s m args below meth c s₁ B hml hv
  obtain ⟨rfl, hsz, hP, hK, hD0, hN⟩ := hv
  have hx := B.exec
  have hb := B.bytes
  have hr := B.returns
  have hts := atoms_spec (ws := k_O_again) B.pre
  have hw0 : ∀ w ∈ w0, w.before _ s = true := fun w h => hts w (List.mem_cons_of_mem _ h)
  have hown : s.vm.findClass R_O = some m.cls := findClass_of_methodNamed B.named
  have hlocks := B.notSynchronized
  subst hsz
  have hD := hD0.self (sz := s.heap.size)
  generalize hAe : va_A [(h0, .inr (7, [.int i_thrown, .int i_down, .int i_lasts, v_buffer, .int i_size, .int i_documents, v_gone, v_first, v_many, .ref hln, v_authors, v_sums, .ref hrow, .ref hmade, .int mz, .ref hbase, .int bz, v_text, .int i_textSize, .int i_textSteps, v_other, .int i_otherSize, v_piece, .int i_pieceSize, .int at0, .int en0, .int vv0])), (hmade, .inl (cB, 256, .inl (f))), (hbase, .inl (cB, 256, .inl (fb))), (hrow, .inl (cB, 16384, .inl (fr))), (hln, .inl (cL, 512, .inl (fl)))] s.heap.size = A at hD ⊢
  have hA : ∀ q : Nat, s.heap.size ≤ q → A q := fun q h => by rw [← hAe]; exact Or.inr h
  have hS : va_S A s.heap s.heap [] := va_S.rf
  have hP : va_P (dC, dI) vwCl [(h0, .inr (7, [.int i_thrown, .int i_down, .int i_lasts, v_buffer, .int i_size, .int i_documents, v_gone, v_first, v_many, .ref hln, v_authors, v_sums, .ref hrow, .ref hmade, .int mz, .ref hbase, .int bz, v_text, .int i_textSize, .int i_textSteps, v_other, .int i_otherSize, v_piece, .int i_pieceSize, .int at0, .int en0, .int vv0])), (hmade, .inl (cB, 256, .inl (f))), (hbase, .inl (cB, 256, .inl (fb))), (hrow, .inl (cB, 16384, .inl (fr))), (hln, .inl (cL, 512, .inl (fl)))] s.heap := hP
  have hl := lv_entry ([.ref h0, .int (nI d9), .int (nI r9)]) (n := 5) (Nat.le_of_ble_eq_true rfl)
  rw [lg_entry_eq]
  generalize (lg_sl ([.ref h0, .int (nI d9), .int (nI r9)]) ++ List.replicate (5 - (lg_sl ([.ref h0, .int (nI d9), .int (nI r9)])).length) Slot.unset).toArray = ls at hl ⊢
  have hl : lv_has ls 5 [(0, .ref h0), (1, .int (nI d9)), (2, .int (nI r9))] := hl
  refine lv_aload_n hx hb d_O_again_0 rfl (lv_at hl 0 rfl) ?_
  refine lv_iconst (v := 0) hx hb d_O_again_1 (by decide) ?_
  refine va_put (D := (dC, dI)) (ci := 7) (v := .int 0) (ty := .int) (C := R_O) (T := F_O) (N := 27) hx hb hw0 in_O ft_O tk_O nk_O hown hK hP hD hS 0 rfl rfl 14 (by decide) (hw0 (.fieldLink R_O 113 "TextKeeperModel" "madeSize" "I") wm_246) (fun _ h9 => h9) rfl (by decide +kernel) rfl rfl (Nat.le_of_ble_eq_true rfl) d_O_again_2 (fun H locs hP hD hS => ?_)
  replace hP : va_P (dC, dI) vwCl [(h0, .inr (7, [.int i_thrown, .int i_down, .int i_lasts, v_buffer, .int i_size, .int i_documents, v_gone, v_first, v_many, .ref hln, v_authors, v_sums, .ref hrow, .ref hmade, .int 0, .ref hbase, .int bz, v_text, .int i_textSize, .int i_textSteps, v_other, .int i_otherSize, v_piece, .int i_pieceSize, .int at0, .int en0, .int vv0])), (hmade, .inl (cB, 256, .inl (f))), (hbase, .inl (cB, 256, .inl (fb))), (hrow, .inl (cB, 16384, .inl (fr))), (hln, .inl (cL, 512, .inl (fl)))] H := hP
  replace hD : va_D A [(h0, .inr (7, [.int i_thrown, .int i_down, .int i_lasts, v_buffer, .int i_size, .int i_documents, v_gone, v_first, v_many, .ref hln, v_authors, v_sums, .ref hrow, .ref hmade, .int 0, .ref hbase, .int bz, v_text, .int i_textSize, .int i_textSteps, v_other, .int i_otherSize, v_piece, .int i_pieceSize, .int at0, .int en0, .int vv0])), (hmade, .inl (cB, 256, .inl (f))), (hbase, .inl (cB, 256, .inl (fb))), (hrow, .inl (cB, 16384, .inl (fr))), (hln, .inl (cL, 512, .inl (fl)))] := hD
  have h0t : tx [] 0 f := tx_nil _
  rcases hp9 : pq (64 * d9 + 0) with _ | S9
  · have hbad : agn (pqF pq d9) r9 = none := agJ_none (j := 0) (stp6_n hp9) 6 (by omega)
    refine lv_aload_n hx hb d_O_again_5 rfl (lv_at hl 0 rfl) ?_
    refine lv_bipush (v := 64) hx hb d_O_again_6 (by decide +kernel) ?_
    refine lv_iload_n hx hb d_O_again_8 rfl (lv_at hl 1 rfl) ?_
    refine lv_imul hx hb d_O_again_9 ?_
    refine lv_topi (fun x_1 ex_1 => ?_)
    obtain rfl : x_1 = (nI (64 * d9 + 0)) := by rw [ex_1]; exact (show nI 64 * nI d9 = nI (64 * d9) from pk_mul _ _)
    clear ex_1
    have hPc := hP.sub (ws' := [(h0, .inr (7, [.int i_thrown, .int i_down, .int i_lasts, v_buffer, .int i_size, .int i_documents, v_gone, v_first, v_many, .ref hln, v_authors, v_sums, .ref hrow, .ref hmade, .int (nI 0), .ref hbase, .int bz, v_text, .int i_textSize, .int i_textSteps, v_other, .int i_otherSize, v_piece, .int i_pieceSize, .int at0, .int en0, .int vv0])), (hmade, .inl (cB, 256, .inl ((f)))), (hbase, .inl (cB, 256, .inl ((fb)))), (hrow, .inl (cB, 16384, .inl ((fr)))), (hln, .inl (cL, 512, .inl ((fl))))]) [0, 1, 2, 3, 4] rfl
    have hKc := hK.sub (tys' := [(cB, .byte), (cL, .short)]) [0, 1] rfl
    have hDc := hD.sub (ws' := [(h0, .inr (7, [.int i_thrown, .int i_down, .int i_lasts, v_buffer, .int i_size, .int i_documents, v_gone, v_first, v_many, .ref hln, v_authors, v_sums, .ref hrow, .ref hmade, .int (nI 0), .ref hbase, .int bz, v_text, .int i_textSize, .int i_textSteps, v_other, .int i_otherSize, v_piece, .int i_pieceSize, .int at0, .int en0, .int vv0])), (hmade, .inl (cB, 256, .inl ((f)))), (hbase, .inl (cB, 256, .inl ((fb)))), (hrow, .inl (cB, 16384, .inl ((fr)))), (hln, .inl (cL, 512, .inl ((fl))))]) [0, 1, 2, 3, 4] (by decide) rfl
    have hFc := va_free (wc := [(h0, .inr (7, [.int i_thrown, .int i_down, .int i_lasts, v_buffer, .int i_size, .int i_documents, v_gone, v_first, v_many, .ref hln, v_authors, v_sums, .ref hrow, .ref hmade, .int (nI 0), .ref hbase, .int bz, v_text, .int i_textSize, .int i_textSteps, v_other, .int i_otherSize, v_piece, .int i_pieceSize, .int at0, .int en0, .int vv0])), (hmade, .inl (cB, 256, .inl ((f)))), (hbase, .inl (cB, 256, .inl ((fb)))), (hrow, .inl (cB, 16384, .inl ((fr)))), (hln, .inl (cL, 512, .inl ((fl))))]) hD hS hA [0, 1, 2, 3, 4] rfl
    refine va_calli (va_runV (As := [.int (nI (64 * d9 + 0))]) (rest := []) ⟨hx, hb, hml, hown, hw0⟩ (o_makes_N l dC dI H.size h0 i_thrown i_down i_lasts v_buffer i_size i_documents v_gone v_first v_many v_authors v_sums bz v_text i_textSize i_textSteps v_other i_otherSize v_piece i_pieceSize at0 en0 vv0 hmade hbase cB 0 (f) (fb) hrow (fr) hln cL (fl) pq ([]) (64 * d9 + 0) (by first | assumption | decide | omega) (by first | assumption | decide | omega) (by first | assumption | decide | omega) (by first | assumption | decide | omega) (by first | assumption | decide | omega) (by first | assumption | decide | omega)) (cwV 1 hw0 (gd_Vm wm_347 wm_348 wm_349 wm_243 wm_350) rfl rfl rfl (by decide +kernel) ⟨by decide +kernel, by decide +kernel⟩) (prV_E hPc hKc hDc hN (va_recv hKc hPc (ci := 7) (q0 := 0) rfl rfl)) rfl rfl hl.1 rfl (lv_room (Nat.le_of_ble_eq_true rfl)) d_O_again_10 ⟨by decide +kernel, by decide +kernel⟩) hS (fun q _ h => hFc q h) hFc (fun r_2 u t H1 locs ht hvm hw hB hz1 hk1 hS => ?_)
    obtain ⟨hP1, hK1, hD1⟩ := hB
    rw [ht] at hP1
    have hK1 := va_K.moved hvm.symm hK1
    try dsimp only at hw
    obtain ⟨hP, hD⟩ := va_join (wr := []) (w1 := [(h0, .inr (7, [.int i_thrown, .int i_down, .int i_lasts, v_buffer, .int i_size, .int i_documents, v_gone, v_first, v_many, .ref hln, v_authors, v_sums, .ref hrow, .ref hbase, .int (nI 0), .ref hmade, .int (nI 0), v_text, .int i_textSize, .int i_textSteps, v_other, .int i_otherSize, v_piece, .int i_pieceSize, .int at0, .int en0, .int vv0])), (hbase, .inl (cB, 256, .inl ((fb)))), (hmade, .inl (cB, 256, .inl ((f)))), (hrow, .inl (cB, 16384, .inl ((fr)))), (hln, .inl (cL, 512, .inl ((fl))))]) hP hD [0, 1, 2, 3, 4] [] rfl rfl (by decide) (by decide) hk1 hFc hP1 hD1
    generalize H1 = H at hP hS ⊢
    replace hP : va_P (dC, dI) vwCl [(h0, .inr (7, [.int i_thrown, .int i_down, .int i_lasts, v_buffer, .int i_size, .int i_documents, v_gone, v_first, v_many, .ref hln, v_authors, v_sums, .ref hrow, .ref hbase, .int (nI 0), .ref hmade, .int (nI 0), v_text, .int i_textSize, .int i_textSteps, v_other, .int i_otherSize, v_piece, .int i_pieceSize, .int at0, .int en0, .int vv0])), (hbase, .inl (cB, 256, .inl ((fb)))), (hmade, .inl (cB, 256, .inl ((f)))), (hrow, .inl (cB, 16384, .inl ((fr)))), (hln, .inl (cL, 512, .inl ((fl))))] H := hP
    replace hD : va_D A [(h0, .inr (7, [.int i_thrown, .int i_down, .int i_lasts, v_buffer, .int i_size, .int i_documents, v_gone, v_first, v_many, .ref hln, v_authors, v_sums, .ref hrow, .ref hbase, .int (nI 0), .ref hmade, .int (nI 0), v_text, .int i_textSize, .int i_textSteps, v_other, .int i_otherSize, v_piece, .int i_pieceSize, .int at0, .int en0, .int vv0])), (hbase, .inl (cB, 256, .inl ((fb)))), (hmade, .inl (cB, 256, .inl ((f)))), (hrow, .inl (cB, 16384, .inl ((fr)))), (hln, .inl (cL, 512, .inl ((fl))))] := hD
    replace hK : va_K (dC, dI) vwCl [(cB, .byte), (cL, .short)] s := hK
    obtain rfl : r_2 = 0 := hw
    · have hz9 := hbad
      refine lv_if_ne (tgt := 18) hx hb d_O_again_13 (by decide) (fun h9 => absurd h9 (by decide +kernel)) (fun _ => ?_)
      refine lv_iconst (v := 0) hx hb d_O_again_16 (by decide) ?_
      have hP9 := hP.sub (ws' := [(h0, .inr (7, [.int i_thrown, .int i_down, .int i_lasts, v_buffer, .int i_size, .int i_documents, v_gone, v_first, v_many, .ref hln, v_authors, v_sums, .ref hrow, .ref hbase, .int (nI 0), .ref hmade, .int (nI 0), v_text, .int i_textSize, .int i_textSteps, v_other, .int i_otherSize, v_piece, .int i_pieceSize, .int at0, .int en0, .int vv0])), (hbase, .inl (cB, 256, .inl ((fb)))), (hmade, .inl (cB, 256, .inl ((f)))), (hrow, .inl (cB, 16384, .inl (fr))), (hln, .inl (cL, 512, .inl (fl)))]) [0, 1, 2, 3, 4] rfl
      have hD9 := hD.sub (ws' := [(h0, .inr (7, [.int i_thrown, .int i_down, .int i_lasts, v_buffer, .int i_size, .int i_documents, v_gone, v_first, v_many, .ref hln, v_authors, v_sums, .ref hrow, .ref hbase, .int (nI 0), .ref hmade, .int (nI 0), v_text, .int i_textSize, .int i_textSteps, v_other, .int i_otherSize, v_piece, .int i_pieceSize, .int at0, .int en0, .int vv0])), (hbase, .inl (cB, 256, .inl ((fb)))), (hmade, .inl (cB, 256, .inl ((f)))), (hrow, .inl (cB, 16384, .inl (fr))), (hln, .inl (cL, 512, .inl (fl)))]) [0, 1, 2, 3, 4] (by decide) rfl
      have hK9 := hK.sub (tys' := [(cB, .byte), (cL, .short)]) [0, 1] rfl
      exact W.zret (v := 0) (ty := .boolean) hx hb hr rfl (fun t ht hW => ⟨⟨0, (), rfl, rfl, hbase, hmade, 0, (fb), (f), (nI 0), at0, en0, vv0, (by omega), by rw [ht]; exact hP9, va_K.moved hW.alike hK9, hD9⟩, hS.F ht⟩) hS.2.2 d_O_again_17
  · have hS9 := hp9
    refine lv_aload_n hx hb d_O_again_5 rfl (lv_at hl 0 rfl) ?_
    refine lv_bipush (v := 64) hx hb d_O_again_6 (by decide +kernel) ?_
    refine lv_iload_n hx hb d_O_again_8 rfl (lv_at hl 1 rfl) ?_
    refine lv_imul hx hb d_O_again_9 ?_
    refine lv_topi (fun x_4 ex_4 => ?_)
    obtain rfl : x_4 = (nI (64 * d9 + 0)) := by rw [ex_4]; exact (show nI 64 * nI d9 = nI (64 * d9) from pk_mul _ _)
    clear ex_4
    have hPc := hP.sub (ws' := [(h0, .inr (7, [.int i_thrown, .int i_down, .int i_lasts, v_buffer, .int i_size, .int i_documents, v_gone, v_first, v_many, .ref hln, v_authors, v_sums, .ref hrow, .ref hmade, .int (nI 0), .ref hbase, .int bz, v_text, .int i_textSize, .int i_textSteps, v_other, .int i_otherSize, v_piece, .int i_pieceSize, .int at0, .int en0, .int vv0])), (hmade, .inl (cB, 256, .inl ((f)))), (hbase, .inl (cB, 256, .inl ((fb)))), (hrow, .inl (cB, 16384, .inl ((fr)))), (hln, .inl (cL, 512, .inl ((fl))))]) [0, 1, 2, 3, 4] rfl
    have hKc := hK.sub (tys' := [(cB, .byte), (cL, .short)]) [0, 1] rfl
    have hDc := hD.sub (ws' := [(h0, .inr (7, [.int i_thrown, .int i_down, .int i_lasts, v_buffer, .int i_size, .int i_documents, v_gone, v_first, v_many, .ref hln, v_authors, v_sums, .ref hrow, .ref hmade, .int (nI 0), .ref hbase, .int bz, v_text, .int i_textSize, .int i_textSteps, v_other, .int i_otherSize, v_piece, .int i_pieceSize, .int at0, .int en0, .int vv0])), (hmade, .inl (cB, 256, .inl ((f)))), (hbase, .inl (cB, 256, .inl ((fb)))), (hrow, .inl (cB, 16384, .inl ((fr)))), (hln, .inl (cL, 512, .inl ((fl))))]) [0, 1, 2, 3, 4] (by decide) rfl
    have hFc := va_free (wc := [(h0, .inr (7, [.int i_thrown, .int i_down, .int i_lasts, v_buffer, .int i_size, .int i_documents, v_gone, v_first, v_many, .ref hln, v_authors, v_sums, .ref hrow, .ref hmade, .int (nI 0), .ref hbase, .int bz, v_text, .int i_textSize, .int i_textSteps, v_other, .int i_otherSize, v_piece, .int i_pieceSize, .int at0, .int en0, .int vv0])), (hmade, .inl (cB, 256, .inl ((f)))), (hbase, .inl (cB, 256, .inl ((fb)))), (hrow, .inl (cB, 16384, .inl ((fr)))), (hln, .inl (cL, 512, .inl ((fl))))]) hD hS hA [0, 1, 2, 3, 4] rfl
    refine va_calli (va_runV (As := [.int (nI (64 * d9 + 0))]) (rest := []) ⟨hx, hb, hml, hown, hw0⟩ (o_makes_S l dC dI H.size h0 i_thrown i_down i_lasts v_buffer i_size i_documents v_gone v_first v_many v_authors v_sums bz v_text i_textSize i_textSteps v_other i_otherSize v_piece i_pieceSize at0 en0 vv0 hmade hbase cB 0 (f) (fb) hrow (fr) hln cL (fl) pq ([]) (64 * d9 + 0) S9 (by first | assumption | decide | omega) (by first | assumption | decide | omega) (by first | assumption | decide | omega) (by first | assumption | decide | omega) (by first | assumption | decide | omega) (by first | assumption | decide | omega)) (cwV 1 hw0 (gd_Vm wm_347 wm_348 wm_349 wm_243 wm_350) rfl rfl rfl (by decide +kernel) ⟨by decide +kernel, by decide +kernel⟩) (prV_E hPc hKc hDc hN (va_recv hKc hPc (ci := 7) (q0 := 0) rfl rfl)) rfl rfl hl.1 rfl (lv_room (Nat.le_of_ble_eq_true rfl)) d_O_again_10 ⟨by decide +kernel, by decide +kernel⟩) hS (fun q _ h => hFc q h) hFc (fun r_5 u t H1 locs ht hvm hw hB hz1 hk1 hS => ?_)
    obtain ⟨k2_6, f2_7, T2_8, at2_9, en2_10, vv2_11, ⟨hu_12_0, hu_12_1⟩, hP1, hK1, hD1⟩ := hB
    rw [ht] at hP1
    have hK1 := va_K.moved hvm.symm hK1
    try dsimp only at hw
    obtain ⟨hP, hD⟩ := va_join (wr := []) (w1 := [(h0, .inr (7, [.int i_thrown, .int i_down, .int i_lasts, v_buffer, .int i_size, .int i_documents, v_gone, v_first, v_many, .ref hln, v_authors, v_sums, .ref hrow, .ref hbase, .int (nI k2_6), .ref hmade, .int (nI 0), v_text, .int i_textSize, .int i_textSteps, v_other, .int i_otherSize, v_piece, .int i_pieceSize, .int at2_9, .int en2_10, .int vv2_11])), (hbase, .inl (cB, 256, .inl (f2_7))), (hmade, .inl (cB, 256, .inl ((f)))), (hrow, .inl (cB, 16384, .inl ((fr)))), (hln, .inl (cL, 512, .inl ((fl))))]) hP hD [0, 1, 2, 3, 4] [] rfl rfl (by decide) (by decide) hk1 hFc hP1 hD1
    generalize H1 = H at hP hS ⊢
    replace hP : va_P (dC, dI) vwCl [(h0, .inr (7, [.int i_thrown, .int i_down, .int i_lasts, v_buffer, .int i_size, .int i_documents, v_gone, v_first, v_many, .ref hln, v_authors, v_sums, .ref hrow, .ref hbase, .int (nI k2_6), .ref hmade, .int (nI 0), v_text, .int i_textSize, .int i_textSteps, v_other, .int i_otherSize, v_piece, .int i_pieceSize, .int at2_9, .int en2_10, .int vv2_11])), (hbase, .inl (cB, 256, .inl (f2_7))), (hmade, .inl (cB, 256, .inl ((f)))), (hrow, .inl (cB, 16384, .inl ((fr)))), (hln, .inl (cL, 512, .inl ((fl))))] H := hP
    replace hD : va_D A [(h0, .inr (7, [.int i_thrown, .int i_down, .int i_lasts, v_buffer, .int i_size, .int i_documents, v_gone, v_first, v_many, .ref hln, v_authors, v_sums, .ref hrow, .ref hbase, .int (nI k2_6), .ref hmade, .int (nI 0), v_text, .int i_textSize, .int i_textSteps, v_other, .int i_otherSize, v_piece, .int i_pieceSize, .int at2_9, .int en2_10, .int vv2_11])), (hbase, .inl (cB, 256, .inl (f2_7))), (hmade, .inl (cB, 256, .inl ((f)))), (hrow, .inl (cB, 16384, .inl ((fr)))), (hln, .inl (cL, 512, .inl ((fl))))] := hD
    replace hK : va_K (dC, dI) vwCl [(cB, .byte), (cL, .short)] s := hK
    have hw_13 := hw
    rcases hm9 : mak S9 [] with _ | Y9
    · rw [hm9] at hw_13; obtain rfl : r_5 = 0 := hw_13
      have hbad : agn (pqF pq d9) r9 = none := agJ_none (j := 0) (by show stp6 _ (some []) 0 = none; rw [stp6_s (show (pqF pq d9) 0 = some S9 from hp9)]; exact hm9) 6 (by omega)
      refine lv_if_ne (tgt := 18) hx hb d_O_again_13 (by decide) (fun h9 => absurd h9 (by decide +kernel)) (fun _ => ?_)
      refine lv_iconst (v := 0) hx hb d_O_again_16 (by decide) ?_
      have hP9 := hP.sub (ws' := [(h0, .inr (7, [.int i_thrown, .int i_down, .int i_lasts, v_buffer, .int i_size, .int i_documents, v_gone, v_first, v_many, .ref hln, v_authors, v_sums, .ref hrow, .ref hbase, .int (nI k2_6), .ref hmade, .int (nI 0), v_text, .int i_textSize, .int i_textSteps, v_other, .int i_otherSize, v_piece, .int i_pieceSize, .int at2_9, .int en2_10, .int vv2_11])), (hbase, .inl (cB, 256, .inl (f2_7))), (hmade, .inl (cB, 256, .inl ((f)))), (hrow, .inl (cB, 16384, .inl (fr))), (hln, .inl (cL, 512, .inl (fl)))]) [0, 1, 2, 3, 4] rfl
      have hD9 := hD.sub (ws' := [(h0, .inr (7, [.int i_thrown, .int i_down, .int i_lasts, v_buffer, .int i_size, .int i_documents, v_gone, v_first, v_many, .ref hln, v_authors, v_sums, .ref hrow, .ref hbase, .int (nI k2_6), .ref hmade, .int (nI 0), v_text, .int i_textSize, .int i_textSteps, v_other, .int i_otherSize, v_piece, .int i_pieceSize, .int at2_9, .int en2_10, .int vv2_11])), (hbase, .inl (cB, 256, .inl (f2_7))), (hmade, .inl (cB, 256, .inl ((f)))), (hrow, .inl (cB, 16384, .inl (fr))), (hln, .inl (cL, 512, .inl (fl)))]) [0, 1, 2, 3, 4] (by decide) rfl
      have hK9 := hK.sub (tys' := [(cB, .byte), (cL, .short)]) [0, 1] rfl
      exact W.zret (v := 0) (ty := .boolean) hx hb hr rfl (fun t ht hW => ⟨⟨0, (), rfl, rfl, hbase, hmade, k2_6, f2_7, (f), (nI 0), at2_9, en2_10, vv2_11, hu_12_0.2, by rw [ht]; exact hP9, va_K.moved hW.alike hK9, hD9⟩, hS.F ht⟩) hS.2.2 d_O_again_17
    · rw [hm9] at hw_13; obtain rfl : r_5 = 1 := hw_13; obtain rfl := hu_12_1 Y9 hm9
      refine lv_if_ne (tgt := 18) hx hb d_O_again_13 (by decide) (fun _ => ?_) (fun h9 => absurd h9 (by decide +kernel))
      refine lv_iconst (v := 0) hx hb d_O_again_18 (by decide) ?_
      refine lv_istore_n (lv' := [(3, .int 0), (0, .ref h0), (1, .int (nI d9)), (2, .int (nI r9))]) hx hb d_O_again_19 rfl hl (by decide) rfl (fun ls hl => ?_)
      refine lv_bipush (v := 32) hx hb d_O_again_20 (by decide +kernel) ?_
      refine lv_istore (lv' := [(4, .int 32), (3, .int 0), (0, .ref h0), (1, .int (nI d9)), (2, .int (nI r9))]) hx hb d_O_again_22 hl (by decide) rfl (fun ls hl => ?_)
      refine lo_aga h0 i_thrown i_down i_lasts v_buffer i_size i_documents v_gone v_first v_many v_authors v_sums v_text i_textSize i_textSteps v_other i_otherSize v_piece i_pieceSize cB hrow fr hln cL fl pq d9 r9 hfl hrw hd9 hr9 hx hb hml hown hw0 hN hK hA (fun hmade8 hbase8 k8 f8 fb8 bz8 at08 en08 vv08 T8 g0 g1 g2 H locs hP hD hS ls hl => ?_) (fun hmade8 hbase8 k8 f8 fb8 bz8 at08 en08 vv08 T8 g0 g1 g2 H locs hP hD hS ls hl => ?_) 7 0 (by omega) (by omega) hbase hmade k2_6 f2_7 (f) (nI 0) at2_9 en2_10 vv2_11 T2_8 hu_12_0.1 hu_12_0.2 (by show stp6 _ (some []) 0 = _; rw [stp6_s (show (pqF pq d9) 0 = some S9 from hp9)]; exact hm9) _ _ (hP.sub (ws' := [(h0, .inr (7, [.int i_thrown, .int i_down, .int i_lasts, v_buffer, .int i_size, .int i_documents, v_gone, v_first, v_many, .ref hln, v_authors, v_sums, .ref hrow, .ref hbase, .int (nI k2_6), .ref hmade, .int (nI 0), v_text, .int i_textSize, .int i_textSteps, v_other, .int i_otherSize, v_piece, .int i_pieceSize, .int at2_9, .int en2_10, .int vv2_11])), (hbase, .inl (cB, 256, .inl (f2_7))), (hmade, .inl (cB, 256, .inl ((f)))), (hrow, .inl (cB, 16384, .inl ((fr)))), (hln, .inl (cL, 512, .inl ((fl))))]) [0, 1, 2, 3, 4] rfl) (hD.sub (ws' := [(h0, .inr (7, [.int i_thrown, .int i_down, .int i_lasts, v_buffer, .int i_size, .int i_documents, v_gone, v_first, v_many, .ref hln, v_authors, v_sums, .ref hrow, .ref hbase, .int (nI k2_6), .ref hmade, .int (nI 0), v_text, .int i_textSize, .int i_textSteps, v_other, .int i_otherSize, v_piece, .int i_pieceSize, .int at2_9, .int en2_10, .int vv2_11])), (hbase, .inl (cB, 256, .inl (f2_7))), (hmade, .inl (cB, 256, .inl ((f)))), (hrow, .inl (cB, 16384, .inl ((fr)))), (hln, .inl (cL, 512, .inl ((fl))))]) [0, 1, 2, 3, 4] (by decide) rfl) hS ls (by rw [hi6_0 (by omega), show bt6 0 = 32 from rfl]; exact (lv_sub hl [0, 1, 2, 3, 4] rfl))
      · exact absurd (g2.symm.trans hag) (fun q => by cases q)
      · have hl := lv_sub hl [0] rfl
        have hl : lv_has ls 5 [(0, .ref h0)] := hl
        refine lv_iconst (v := 0) hx hb d_O_again_54 (by decide) ?_
        have hP9 := hP.sub (ws' := [(h0, .inr (7, [.int i_thrown, .int i_down, .int i_lasts, v_buffer, .int i_size, .int i_documents, v_gone, v_first, v_many, .ref hln, v_authors, v_sums, .ref hrow, .ref hmade8, .int (nI k8), .ref hbase8, .int bz8, v_text, .int i_textSize, .int i_textSteps, v_other, .int i_otherSize, v_piece, .int i_pieceSize, .int at08, .int en08, .int vv08])), (hmade8, .inl (cB, 256, .inl (f8))), (hbase8, .inl (cB, 256, .inl (fb8))), (hrow, .inl (cB, 16384, .inl (fr))), (hln, .inl (cL, 512, .inl (fl)))]) [0, 1, 2, 3, 4] rfl
        have hD9 := hD.sub (ws' := [(h0, .inr (7, [.int i_thrown, .int i_down, .int i_lasts, v_buffer, .int i_size, .int i_documents, v_gone, v_first, v_many, .ref hln, v_authors, v_sums, .ref hrow, .ref hmade8, .int (nI k8), .ref hbase8, .int bz8, v_text, .int i_textSize, .int i_textSteps, v_other, .int i_otherSize, v_piece, .int i_pieceSize, .int at08, .int en08, .int vv08])), (hmade8, .inl (cB, 256, .inl (f8))), (hbase8, .inl (cB, 256, .inl (fb8))), (hrow, .inl (cB, 16384, .inl (fr))), (hln, .inl (cL, 512, .inl (fl)))]) [0, 1, 2, 3, 4] (by decide) rfl
        have hK9 := hK.sub (tys' := [(cB, .byte), (cL, .short)]) [0, 1] rfl
        exact W.zret (v := 0) (ty := .boolean) hx hb hr rfl (fun t ht hW => ⟨⟨0, (), rfl, rfl, hmade8, hbase8, k8, f8, fb8, bz8, at08, en08, vv08, g1, by rw [ht]; exact hP9, va_K.moved hW.alike hK9, hD9⟩, hS.F ht⟩) hS.2.2 d_O_again_55
end
section
set_option maxHeartbeats 4000000 in
set_option maxRecDepth 100000 in
theorem lo_drp {p : Program} {l : Launch} {e : Env} {s : State} {m : MethodId} {args : Array Value} {below : List Frame} {meth : Method} {c : Code} {dC : Nat → ClassId} {dI : Nat → Nat → Nat} {A : Nat → Prop} {Q : State → Prop} {R : Room} (h0 : Nat) (i_thrown : Int32) (i_down : Int32) (i_lasts : Int32) (v_buffer : Value) (i_size : Int32) (i_documents : Int32) (v_gone : Value) (v_first : Value) (v_many : Value) (v_authors : Value) (v_sums : Value) (v_made : Value) (i_madeSize : Int32) (v_base : Value) (i_baseSize : Int32) (v_text : Value) (i_textSize : Int32) (i_textSteps : Int32) (v_other : Value) (i_otherSize : Int32) (v_piece : Value) (i_pieceSize : Int32) (i_at : Int32) (i_end : Int32) (i_value : Int32) (hrow : Nat) (cB : ClassId) (fr : Nat → Int32) (hln : Nat) (cL : ClassId) (fl : Nat → Int32) (q9 : Nat) (a9 : Nat) (n9 : Nat) (hn9 : n9 ≤ 16384)
    (hx : p.tables.exec = Jvm.exec) (hb : c.code = prog_9_method_13_code) (hml : c.maxLocals = 5) (hown : s.vm.findClass R_O = some m.cls) (hw0 : ∀ w ∈ w0, w.before args s = true) (hN : nw_ok s) (hK : va_K (dC, dI) vwCl [(cB, .byte), (cL, .short)] s) (hA : ∀ q : Nat, s.heap.size ≤ q → A q)
    (kk : (a9 ≤ (16384 - n9)) → ∀ (H : Heap) (locs : List Loc), va_P (dC, dI) vwCl [(h0, .inr (7, [.int i_thrown, .int i_down, .int i_lasts, v_buffer, .int i_size, .int i_documents, v_gone, v_first, v_many, .ref hln, v_authors, v_sums, .ref hrow, v_made, .int i_madeSize, v_base, .int i_baseSize, v_text, .int i_textSize, .int i_textSteps, v_other, .int i_otherSize, v_piece, .int i_pieceSize, .int i_at, .int i_end, .int i_value])), (hrow, .inl (cB, 16384, .inl ((shf fr a9 n9 (16384 - n9))))), (hln, .inl (cL, 512, .inl (fl)))] H → va_D A [(h0, .inr (7, [.int i_thrown, .int i_down, .int i_lasts, v_buffer, .int i_size, .int i_documents, v_gone, v_first, v_many, .ref hln, v_authors, v_sums, .ref hrow, v_made, .int i_madeSize, v_base, .int i_baseSize, v_text, .int i_textSize, .int i_textSteps, v_other, .int i_otherSize, v_piece, .int i_pieceSize, .int i_at, .int i_end, .int i_value])), (hrow, .inl (cB, 16384, .inl ((shf fr a9 n9 (16384 - n9))))), (hln, .inl (cL, 512, .inl (fl)))] → va_S A s.heap H locs → ∀ ls : Array Slot, lv_has ls 5 [(4, .int (nI (16384 - n9))), (0, .ref h0), (1, .int (nI q9)), (2, .int (nI a9)), (3, .int (nI n9))] → W p l e R s m args below meth c H locs 0 0 Q (F0 m 61 ls [])) :
    ∀ (n j : Nat), j ≤ (16384 - n9) → (16384 - n9) < j + n → (a9 ≤ j) → ∀ (H : Heap) (locs : List Loc), va_P (dC, dI) vwCl [(h0, .inr (7, [.int i_thrown, .int i_down, .int i_lasts, v_buffer, .int i_size, .int i_documents, v_gone, v_first, v_many, .ref hln, v_authors, v_sums, .ref hrow, v_made, .int i_madeSize, v_base, .int i_baseSize, v_text, .int i_textSize, .int i_textSteps, v_other, .int i_otherSize, v_piece, .int i_pieceSize, .int i_at, .int i_end, .int i_value])), (hrow, .inl (cB, 16384, .inl ((shf fr a9 n9 j)))), (hln, .inl (cL, 512, .inl (fl)))] H → va_D A [(h0, .inr (7, [.int i_thrown, .int i_down, .int i_lasts, v_buffer, .int i_size, .int i_documents, v_gone, v_first, v_many, .ref hln, v_authors, v_sums, .ref hrow, v_made, .int i_madeSize, v_base, .int i_baseSize, v_text, .int i_textSize, .int i_textSteps, v_other, .int i_otherSize, v_piece, .int i_pieceSize, .int i_at, .int i_end, .int i_value])), (hrow, .inl (cB, 16384, .inl ((shf fr a9 n9 j)))), (hln, .inl (cL, 512, .inl (fl)))] → va_S A s.heap H locs → ∀ ls : Array Slot, lv_has ls 5 [(4, .int (nI j)), (0, .ref h0), (1, .int (nI q9)), (2, .int (nI a9)), (3, .int (nI n9))] → W p l e R s m args below meth c H locs 0 0 Q (F0 m 29 ls []) := by
  intro n
  induction n with
  | zero => intro j h1 h2; exact absurd h2 (by omega)
  | succ n ih =>
    intro j hj hn  hf0 H locs hP hD hS ls hl
    refine lv_iload hx hb d_O_drop_29 (lv_at hl 0 rfl) ?_
    refine lv_iload_n hx hb d_O_drop_31 rfl (lv_at hl 4 rfl) ?_
    refine lv_iadd hx hb d_O_drop_32 ?_
    refine lv_topi (fun x_1 ex_1 => ?_)
    obtain rfl : x_1 = (nI (j + n9)) := by rw [ex_1]; exact nI_add _ _
    clear ex_1
    refine lv_sipush (v := 16384) hx hb d_O_drop_33 (by decide +kernel) ?_
    refine lv_icmp_ge (tgt := 61) hx hb d_O_drop_36 (by decide) (fun c_2 => ?_) (fun c_2 => ?_)
    · obtain rfl : j = 16384 - n9 := (by have h8 := (nI_leI (a := 16384) (by decide) (by omega)).mp c_2; omega)
      exact kk hf0 _ _ hP hD hS ls (lv_sub hl [0, 1, 2, 3, 4] rfl)
    · have hlt : j + n9 < 16384 := (by rcases Nat.lt_or_ge (j + n9) 16384 with z | z; exact z; exact absurd (nI_le (a := 16384) z (by omega)) c_2)
      refine lv_aload_n hx hb d_O_drop_39 rfl (lv_at hl 1 rfl) ?_
      refine va_get (D := (dC, dI)) (ci := 7) (v := .ref hrow) (C := R_O) (T := F_O) (N := 27) hx hb hw0 in_O hown hK hP 0 rfl rfl 12 (by decide) (hw0 (.fieldLink R_O 38 "TextKeeperModel" "row" "[B") wm_264) (fun _ h9 => h9) rfl d_O_drop_40 ?_
      refine lv_iload hx hb d_O_drop_43 (lv_at hl 0 rfl) ?_
      refine lv_aload_n hx hb d_O_drop_45 rfl (lv_at hl 1 rfl) ?_
      refine va_get (D := (dC, dI)) (ci := 7) (v := .ref hrow) (C := R_O) (T := F_O) (N := 27) hx hb hw0 in_O hown hK hP 0 rfl rfl 12 (by decide) (hw0 (.fieldLink R_O 38 "TextKeeperModel" "row" "[B") wm_264) (fun _ h9 => h9) rfl d_O_drop_46 ?_
      refine lv_iload hx hb d_O_drop_49 (lv_at hl 0 rfl) ?_
      refine lv_iload_n hx hb d_O_drop_51 rfl (lv_at hl 4 rfl) ?_
      refine lv_iadd hx hb d_O_drop_52 ?_
      refine lv_topi (fun x_3 ex_3 => ?_)
      obtain rfl : x_3 = (nI (j + n9)) := by rw [ex_3]; exact nI_add _ _
      clear ex_3
      refine va_bald hx hb hK hP 1 0 rfl rfl (vp_in_nI (by omega) (by decide)) d_O_drop_53 ?_
      refine lv_topi (fun x_4 ex_4 => ?_)
      refine va_bast hx hb hK hP hD hS 1 0 rfl rfl (vp_in_nI (by omega) (by decide)) d_O_drop_54 (fun H locs hP hD hS => ?_)
      replace hP : va_P (dC, dI) vwCl [(h0, .inr (7, [.int i_thrown, .int i_down, .int i_lasts, v_buffer, .int i_size, .int i_documents, v_gone, v_first, v_many, .ref hln, v_authors, v_sums, .ref hrow, v_made, .int i_madeSize, v_base, .int i_baseSize, v_text, .int i_textSize, .int i_textSteps, v_other, .int i_otherSize, v_piece, .int i_pieceSize, .int i_at, .int i_end, .int i_value])), (hrow, .inl (cB, 16384, .inl (upd ((shf fr a9 n9 j)) (Int32.toNatClampNeg (nI j)) (vp_nar .byte (x_4))))), (hln, .inl (cL, 512, .inl (fl)))] H := hP
      replace hD : va_D A [(h0, .inr (7, [.int i_thrown, .int i_down, .int i_lasts, v_buffer, .int i_size, .int i_documents, v_gone, v_first, v_many, .ref hln, v_authors, v_sums, .ref hrow, v_made, .int i_madeSize, v_base, .int i_baseSize, v_text, .int i_textSize, .int i_textSteps, v_other, .int i_otherSize, v_piece, .int i_pieceSize, .int i_at, .int i_end, .int i_value])), (hrow, .inl (cB, 16384, .inl (upd ((shf fr a9 n9 j)) (Int32.toNatClampNeg (nI j)) (vp_nar .byte (x_4))))), (hln, .inl (cL, 512, .inl (fl)))] := hD
      have eS : upd ((shf fr a9 n9 j)) (Int32.toNatClampNeg (nI j)) (vp_nar .byte (x_4)) = shf fr a9 n9 (j + 1) := by rw [nI_clamp (by omega), show vp_nar .byte x_4 = nbb x_4 from vp_nar_byte x_4, ex_4, nI_clamp (by omega)]; exact shf_1 hf0
      rw [eS] at hP hD
      refine lv_iinc (v := nI (j + 1)) (lv' := [(4, .int (nI (j + 1))), (0, .ref h0), (1, .int (nI q9)), (2, .int (nI a9)), (3, .int (nI n9))]) hx hb d_O_drop_55 hl (k := 0) rfl (nI_1 j) (by decide) rfl (fun ls hl => ?_)
      refine lv_goto (tgt := 29) hx hb d_O_drop_58 (by decide) ?_
      exact ih (j + 1) (by omega) (by omega) (by omega) _ _ hP hD hS ls (lv_sub hl [0, 1, 2, 3, 4] rfl)
set_option maxHeartbeats 4000000 in
set_option maxRecDepth 100000 in
theorem o_drop (l : Launch) (dC : Nat → ClassId) (dI : Nat → Nat → Nat) (sz : Nat) (h0 : Nat) (i_thrown : Int32) (i_down : Int32) (i_lasts : Int32) (v_buffer : Value) (i_size : Int32) (i_documents : Int32) (v_gone : Value) (v_first : Value) (v_many : Value) (v_authors : Value) (v_sums : Value) (v_made : Value) (i_madeSize : Int32) (v_base : Value) (i_baseSize : Int32) (v_text : Value) (i_textSize : Int32) (i_textSteps : Int32) (v_other : Value) (i_otherSize : Int32) (v_piece : Value) (i_pieceSize : Int32) (i_at : Int32) (i_end : Int32) (i_value : Int32) (hrow : Nat) (cB : ClassId) (fr : Nat → Int32) (hln : Nat) (cL : ClassId) (fl : Nat → Int32) (pq : Nat → Option (List Int32)) (q9 : Nat) (hfl : ∀ j, j < 512 → fl j = vI (lnq pq j)) (hrw : rowOk pq fr) (hq9 : q9 < 512) : Met l y_O_drop k_O_drop ({ frames := 1, cells := 0, slots := 0, locals := 23 } : Room) (va_Pc [.ref h0, .int (nI q9)] (pc_E (dC, dI) [(h0, .inr (7, [.int i_thrown, .int i_down, .int i_lasts, v_buffer, .int i_size, .int i_documents, v_gone, v_first, v_many, .ref hln, v_authors, v_sums, .ref hrow, v_made, .int i_madeSize, v_base, .int i_baseSize, v_text, .int i_textSize, .int i_textSteps, v_other, .int i_otherSize, v_piece, .int i_pieceSize, .int i_at, .int i_end, .int i_value])), (hrow, .inl (cB, 16384, .inl (fr))), (hln, .inl (cL, 512, .inl (fl)))] [(cB, .byte), (cL, .short)] sz)) (va_Qv (fun (_ : Unit) => True) (fun (_ : Unit) t => ∃ (fr2 : Nat → Int32) (fl2 : Nat → Int32), (rowOk (va_up pq q9 none) fr2 ∧ ∀ j, j < 512 → fl2 j = vI (lnq (va_up pq q9 none) j)) ∧ at_E (dC, dI) (va_A [(h0, .inr (7, [.int i_thrown, .int i_down, .int i_lasts, v_buffer, .int i_size, .int i_documents, v_gone, v_first, v_many, .ref hln, v_authors, v_sums, .ref hrow, v_made, .int i_madeSize, v_base, .int i_baseSize, v_text, .int i_textSize, .int i_textSteps, v_other, .int i_otherSize, v_piece, .int i_pieceSize, .int i_at, .int i_end, .int i_value])), (hrow, .inl (cB, 16384, .inl (fr))), (hln, .inl (cL, 512, .inl (fl)))] sz) [(h0, .inr (7, [.int i_thrown, .int i_down, .int i_lasts, v_buffer, .int i_size, .int i_documents, v_gone, v_first, v_many, .ref hln, v_authors, v_sums, .ref hrow, v_made, .int i_madeSize, v_base, .int i_baseSize, v_text, .int i_textSize, .int i_textSteps, v_other, .int i_otherSize, v_piece, .int i_pieceSize, .int i_at, .int i_end, .int i_value])), (hrow, .inl (cB, 16384, .inl (fr2))), (hln, .inl (cL, 512, .inl (fl2)))] [(cB, .byte), (cL, .short)] t) (va_A [(h0, .inr (7, [.int i_thrown, .int i_down, .int i_lasts, v_buffer, .int i_size, .int i_documents, v_gone, v_first, v_many, .ref hln, v_authors, v_sums, .ref hrow, v_made, .int i_madeSize, v_base, .int i_baseSize, v_text, .int i_textSize, .int i_textSteps, v_other, .int i_otherSize, v_piece, .int i_pieceSize, .int i_at, .int i_end, .int i_value])), (hrow, .inl (cB, 16384, .inl (fr))), (hln, .inl (cL, 512, .inl (fl)))] sz)) 0 0 (va_A [(h0, .inr (7, [.int i_thrown, .int i_down, .int i_lasts, v_buffer, .int i_size, .int i_documents, v_gone, v_first, v_many, .ref hln, v_authors, v_sums, .ref hrow, v_made, .int i_madeSize, v_base, .int i_baseSize, v_text, .int i_textSize, .int i_textSteps, v_other, .int i_otherSize, v_piece, .int i_pieceSize, .int i_at, .int i_end, .int i_value])), (hrow, .inl (cB, 16384, .inl (fr))), (hln, .inl (cL, 512, .inl (fl)))] sz) := by
  refine Met.ofW (cc := prog_9_method_13_code) (maxL := 5) (ret := none) (by decide) rfl ?_
  intro p e s m args below meth c s₁ B hml hv
  obtain ⟨rfl, hsz, hP, hK, hD0, hN⟩ := hv
  have hx := B.exec
  have hb := B.bytes
  have hr := B.returns
  have hts := atoms_spec (ws := k_O_drop) B.pre
  have hw0 : ∀ w ∈ w0, w.before _ s = true := fun w h => hts w (List.mem_cons_of_mem _ h)
  have hown : s.vm.findClass R_O = some m.cls := findClass_of_methodNamed B.named
  have hlocks := B.notSynchronized
  subst hsz
  have hD := hD0.self (sz := s.heap.size)
  generalize hAe : va_A [(h0, .inr (7, [.int i_thrown, .int i_down, .int i_lasts, v_buffer, .int i_size, .int i_documents, v_gone, v_first, v_many, .ref hln, v_authors, v_sums, .ref hrow, v_made, .int i_madeSize, v_base, .int i_baseSize, v_text, .int i_textSize, .int i_textSteps, v_other, .int i_otherSize, v_piece, .int i_pieceSize, .int i_at, .int i_end, .int i_value])), (hrow, .inl (cB, 16384, .inl (fr))), (hln, .inl (cL, 512, .inl (fl)))] s.heap.size = A at hD ⊢
  have hA : ∀ q : Nat, s.heap.size ≤ q → A q := fun q h => by rw [← hAe]; exact Or.inr h
  have hS : va_S A s.heap s.heap [] := va_S.rf
  have hP : va_P (dC, dI) vwCl [(h0, .inr (7, [.int i_thrown, .int i_down, .int i_lasts, v_buffer, .int i_size, .int i_documents, v_gone, v_first, v_many, .ref hln, v_authors, v_sums, .ref hrow, v_made, .int i_madeSize, v_base, .int i_baseSize, v_text, .int i_textSize, .int i_textSteps, v_other, .int i_otherSize, v_piece, .int i_pieceSize, .int i_at, .int i_end, .int i_value])), (hrow, .inl (cB, 16384, .inl (fr))), (hln, .inl (cL, 512, .inl (fl)))] s.heap := hP
  have hl := lv_entry ([.ref h0, .int (nI q9)]) (n := 5) (Nat.le_of_ble_eq_true rfl)
  rw [lg_entry_eq]
  generalize (lg_sl ([.ref h0, .int (nI q9)]) ++ List.replicate (5 - (lg_sl ([.ref h0, .int (nI q9)])).length) Slot.unset).toArray = ls at hl ⊢
  have hl : lv_has ls 5 [(0, .ref h0), (1, .int (nI q9))] := hl
  have hbd := row_bd hrw
  refine lv_aload_n hx hb d_O_drop_0 rfl (lv_at hl 0 rfl) ?_
  refine lv_iload_n hx hb d_O_drop_1 rfl (lv_at hl 1 rfl) ?_
  have hPc := hP.sub (ws' := [(h0, .inr (7, [.int i_thrown, .int i_down, .int i_lasts, v_buffer, .int i_size, .int i_documents, v_gone, v_first, v_many, .ref hln, v_authors, v_sums, .ref hrow, v_made, .int i_madeSize, v_base, .int i_baseSize, v_text, .int i_textSize, .int i_textSteps, v_other, .int i_otherSize, v_piece, .int i_pieceSize, .int i_at, .int i_end, .int i_value])), (hln, .inl (cL, 512, .inl ((fl))))]) [0, 2] rfl
  have hKc := hK.sub (tys' := [(cL, .short)]) [1] rfl
  refine ps_i (va_runV (As := [.int (nI q9)]) (rest := []) ⟨hx, hb, hml, hown, hw0⟩ (o_begins l dC dI h0 i_thrown i_down i_lasts v_buffer i_size i_documents v_gone v_first v_many v_authors v_sums (.ref hrow) v_made i_madeSize v_base i_baseSize v_text i_textSize i_textSteps v_other i_otherSize v_piece i_pieceSize i_at i_end i_value hln cL (fl) (lnq pq) q9 (by first | assumption | decide | omega) (by first | assumption | decide | omega) (by first | assumption | decide | omega)) (cwV 1 hw0 (gd_Vm wm_343 wm_344 wm_345 wm_243 wm_346) rfl rfl rfl (by decide +kernel) ⟨by decide +kernel, by decide +kernel⟩) (prV_R hPc hKc hN (va_recv hKc hPc (ci := 7) (q0 := 0) rfl rfl)) rfl rfl hl.1 rfl (lv_room (Nat.le_of_ble_eq_true rfl)) d_O_drop_2 ⟨by decide +kernel, by decide +kernel⟩) (fun r_1 hr_1 => ?_)
  obtain rfl : r_1 = (nI (bgs (lnq pq) q9)) := hr_1
  refine lv_istore_n (lv' := [(2, .int (nI (bgs (lnq pq) q9))), (0, .ref h0), (1, .int (nI q9))]) hx hb d_O_drop_5 rfl hl (by decide) rfl (fun ls hl => ?_)
  refine lv_aload_n hx hb d_O_drop_6 rfl (lv_at hl 1 rfl) ?_
  refine va_get (D := (dC, dI)) (ci := 7) (v := .ref hln) (C := R_O) (T := F_O) (N := 27) hx hb hw0 in_O hown hK hP 0 rfl rfl 9 (by decide) (hw0 (.fieldLink R_O 28 "TextKeeperModel" "lengths" "[S") wm_289) (fun _ h9 => h9) rfl d_O_drop_7 ?_
  refine lv_iload_n hx hb d_O_drop_10 rfl (lv_at hl 2 rfl) ?_
  refine va_sald hx hb hK hP 2 1 rfl rfl (vp_in_nI (by omega) (by decide)) d_O_drop_11 ?_
  refine lv_topi (fun x_2 ex_2 => ?_)
  refine lv_if_le (tgt := 24) hx hb d_O_drop_12 (by decide) (fun c_3 => ?_) (fun c_3 => ?_)
  · refine lv_iconst (v := 0) hx hb d_O_drop_24 (by decide) ?_
    refine lv_istore_n (lv' := [(3, .int 0), (2, .int (nI (bgs (lnq pq) q9))), (0, .ref h0), (1, .int (nI q9))]) hx hb d_O_drop_25 rfl hl (by decide) rfl (fun ls hl => ?_)
    refine lv_iload_n hx hb d_O_drop_26 rfl (lv_at hl 1 rfl) ?_
    refine lv_istore (lv' := [(4, .int (nI (bgs (lnq pq) q9))), (3, .int 0), (2, .int (nI (bgs (lnq pq) q9))), (0, .ref h0), (1, .int (nI q9))]) hx hb d_O_drop_27 hl (by decide) rfl (fun ls hl => ?_)
    have hn8 : 0 = nI (pcL pq q9).length := (drp_0 hq9 hfl hbd ex_2 c_3)
    have hn7 : (pcL pq q9).length ≤ 16384 := (by have := pcL_le hrw hq9; omega)
    have hn6 := pcL_le hrw hq9
    rw [← shf_0 fr (bgs (lnq pq) q9) (pcL pq q9).length] at hP hD
    refine lo_drp h0 i_thrown i_down i_lasts v_buffer i_size i_documents v_gone v_first v_many v_authors v_sums v_made i_madeSize v_base i_baseSize v_text i_textSize i_textSteps v_other i_otherSize v_piece i_pieceSize i_at i_end i_value hrow cB fr hln cL fl q9 (bgs (lnq pq) q9) ((pcL pq q9).length) hn7 hx hb hml hown hw0 hN hK hA (fun _ H locs hP hD hS ls hl => ?_) (16384 - (pcL pq q9).length - bgs (lnq pq) q9 + 1) (bgs (lnq pq) q9) (by omega) (by omega) (Nat.le_refl _) _ _ hP hD hS ls (by rw [← hn8]; exact (lv_sub hl [0, 3, 4, 2, 1] rfl))
    have hl := lv_sub hl [1, 2] rfl
    have hl : lv_has ls 5 [(0, .ref h0), (1, .int (nI q9))] := hl
    refine lv_aload_n hx hb d_O_drop_61 rfl (lv_at hl 0 rfl) ?_
    refine va_get (D := (dC, dI)) (ci := 7) (v := .ref hln) (C := R_O) (T := F_O) (N := 27) hx hb hw0 in_O hown hK hP 0 rfl rfl 9 (by decide) (hw0 (.fieldLink R_O 28 "TextKeeperModel" "lengths" "[S") wm_289) (fun _ h9 => h9) rfl d_O_drop_62 ?_
    refine lv_iload_n hx hb d_O_drop_65 rfl (lv_at hl 1 rfl) ?_
    refine lv_iconst (v := (-1)) hx hb d_O_drop_66 (by decide) ?_
    refine va_sast hx hb hK hP hD hS 2 1 rfl rfl (vp_in_nI (by omega) (by decide)) d_O_drop_67 (fun H locs hP hD hS => ?_)
    replace hP : va_P (dC, dI) vwCl [(h0, .inr (7, [.int i_thrown, .int i_down, .int i_lasts, v_buffer, .int i_size, .int i_documents, v_gone, v_first, v_many, .ref hln, v_authors, v_sums, .ref hrow, v_made, .int i_madeSize, v_base, .int i_baseSize, v_text, .int i_textSize, .int i_textSteps, v_other, .int i_otherSize, v_piece, .int i_pieceSize, .int i_at, .int i_end, .int i_value])), (hrow, .inl (cB, 16384, .inl ((shf fr (bgs (lnq pq) q9) (pcL pq q9).length (16384 - (pcL pq q9).length))))), (hln, .inl (cL, 512, .inl (upd (fl) (Int32.toNatClampNeg (nI q9)) (vp_nar .short ((-1))))))] H := hP
    replace hD : va_D A [(h0, .inr (7, [.int i_thrown, .int i_down, .int i_lasts, v_buffer, .int i_size, .int i_documents, v_gone, v_first, v_many, .ref hln, v_authors, v_sums, .ref hrow, v_made, .int i_madeSize, v_base, .int i_baseSize, v_text, .int i_textSize, .int i_textSteps, v_other, .int i_otherSize, v_piece, .int i_pieceSize, .int i_at, .int i_end, .int i_value])), (hrow, .inl (cB, 16384, .inl ((shf fr (bgs (lnq pq) q9) (pcL pq q9).length (16384 - (pcL pq q9).length))))), (hln, .inl (cL, 512, .inl (upd (fl) (Int32.toNatClampNeg (nI q9)) (vp_nar .short ((-1))))))] := hD
    have eS : upd (fl) (Int32.toNatClampNeg (nI q9)) (vp_nar .short ((-1))) = upd fl q9 (-1) := by rw [nI_clamp (by omega)]; exact congrArg (upd fl q9) (by decide +kernel)
    rw [eS] at hP hD
    have hP9 := hP.sub (ws' := [(h0, .inr (7, [.int i_thrown, .int i_down, .int i_lasts, v_buffer, .int i_size, .int i_documents, v_gone, v_first, v_many, .ref hln, v_authors, v_sums, .ref hrow, v_made, .int i_madeSize, v_base, .int i_baseSize, v_text, .int i_textSize, .int i_textSteps, v_other, .int i_otherSize, v_piece, .int i_pieceSize, .int i_at, .int i_end, .int i_value])), (hrow, .inl (cB, 16384, .inl ((shf fr (bgs (lnq pq) q9) (pcL pq q9).length (16384 - (pcL pq q9).length))))), (hln, .inl (cL, 512, .inl ((upd fl q9 (-1)))))]) [0, 1, 2] rfl
    have hD9 := hD.sub (ws' := [(h0, .inr (7, [.int i_thrown, .int i_down, .int i_lasts, v_buffer, .int i_size, .int i_documents, v_gone, v_first, v_many, .ref hln, v_authors, v_sums, .ref hrow, v_made, .int i_madeSize, v_base, .int i_baseSize, v_text, .int i_textSize, .int i_textSteps, v_other, .int i_otherSize, v_piece, .int i_pieceSize, .int i_at, .int i_end, .int i_value])), (hrow, .inl (cB, 16384, .inl ((shf fr (bgs (lnq pq) q9) (pcL pq q9).length (16384 - (pcL pq q9).length))))), (hln, .inl (cL, 512, .inl ((upd fl q9 (-1)))))]) [0, 1, 2] (by decide) rfl
    have hK9 := hK.sub (tys' := [(cB, .byte), (cL, .short)]) [0, 1] rfl
    exact W.vret hx hb hr (fun t ht hW => ⟨⟨(), rfl, trivial, (shf fr (bgs (lnq pq) q9) (pcL pq q9).length (16384 - (pcL pq q9).length)), (upd fl q9 (-1)), ⟨row_shf hrw hq9 rfl, lnq_up hfl⟩, by rw [ht]; exact hP9, va_K.moved hW.alike hK9, hD9⟩, hS.F ht⟩) hS.2.2 d_O_drop_68
  · refine lv_aload_n hx hb d_O_drop_15 rfl (lv_at hl 1 rfl) ?_
    refine va_get (D := (dC, dI)) (ci := 7) (v := .ref hln) (C := R_O) (T := F_O) (N := 27) hx hb hw0 in_O hown hK hP 0 rfl rfl 9 (by decide) (hw0 (.fieldLink R_O 28 "TextKeeperModel" "lengths" "[S") wm_289) (fun _ h9 => h9) rfl d_O_drop_16 ?_
    refine lv_iload_n hx hb d_O_drop_19 rfl (lv_at hl 2 rfl) ?_
    refine va_sald hx hb hK hP 2 1 rfl rfl (vp_in_nI (by omega) (by decide)) d_O_drop_20 ?_
    refine lv_topi (fun x_4 ex_4 => ?_)
    refine lv_goto (tgt := 25) hx hb d_O_drop_21 (by decide) ?_
    refine lv_istore_n (lv' := [(3, .int x_4), (2, .int (nI (bgs (lnq pq) q9))), (0, .ref h0), (1, .int (nI q9))]) hx hb d_O_drop_25 rfl hl (by decide) rfl (fun ls hl => ?_)
    refine lv_iload_n hx hb d_O_drop_26 rfl (lv_at hl 1 rfl) ?_
    refine lv_istore (lv' := [(4, .int (nI (bgs (lnq pq) q9))), (3, .int x_4), (2, .int (nI (bgs (lnq pq) q9))), (0, .ref h0), (1, .int (nI q9))]) hx hb d_O_drop_27 hl (by decide) rfl (fun ls hl => ?_)
    have hn8 : x_4 = nI (pcL pq q9).length := (drp_1 hq9 hfl ex_2 c_3 ex_4)
    have hn7 : (pcL pq q9).length ≤ 16384 := (by have := pcL_le hrw hq9; omega)
    have hn6 := pcL_le hrw hq9
    rw [← shf_0 fr (bgs (lnq pq) q9) (pcL pq q9).length] at hP hD
    refine lo_drp h0 i_thrown i_down i_lasts v_buffer i_size i_documents v_gone v_first v_many v_authors v_sums v_made i_madeSize v_base i_baseSize v_text i_textSize i_textSteps v_other i_otherSize v_piece i_pieceSize i_at i_end i_value hrow cB fr hln cL fl q9 (bgs (lnq pq) q9) ((pcL pq q9).length) hn7 hx hb hml hown hw0 hN hK hA (fun _ H locs hP hD hS ls hl => ?_) (16384 - (pcL pq q9).length - bgs (lnq pq) q9 + 1) (bgs (lnq pq) q9) (by omega) (by omega) (Nat.le_refl _) _ _ hP hD hS ls (by rw [← hn8]; exact (lv_sub hl [0, 3, 4, 2, 1] rfl))
    have hl := lv_sub hl [1, 2] rfl
    have hl : lv_has ls 5 [(0, .ref h0), (1, .int (nI q9))] := hl
    refine lv_aload_n hx hb d_O_drop_61 rfl (lv_at hl 0 rfl) ?_
    refine va_get (D := (dC, dI)) (ci := 7) (v := .ref hln) (C := R_O) (T := F_O) (N := 27) hx hb hw0 in_O hown hK hP 0 rfl rfl 9 (by decide) (hw0 (.fieldLink R_O 28 "TextKeeperModel" "lengths" "[S") wm_289) (fun _ h9 => h9) rfl d_O_drop_62 ?_
    refine lv_iload_n hx hb d_O_drop_65 rfl (lv_at hl 1 rfl) ?_
    refine lv_iconst (v := (-1)) hx hb d_O_drop_66 (by decide) ?_
    refine va_sast hx hb hK hP hD hS 2 1 rfl rfl (vp_in_nI (by omega) (by decide)) d_O_drop_67 (fun H locs hP hD hS => ?_)
    replace hP : va_P (dC, dI) vwCl [(h0, .inr (7, [.int i_thrown, .int i_down, .int i_lasts, v_buffer, .int i_size, .int i_documents, v_gone, v_first, v_many, .ref hln, v_authors, v_sums, .ref hrow, v_made, .int i_madeSize, v_base, .int i_baseSize, v_text, .int i_textSize, .int i_textSteps, v_other, .int i_otherSize, v_piece, .int i_pieceSize, .int i_at, .int i_end, .int i_value])), (hrow, .inl (cB, 16384, .inl ((shf fr (bgs (lnq pq) q9) (pcL pq q9).length (16384 - (pcL pq q9).length))))), (hln, .inl (cL, 512, .inl (upd (fl) (Int32.toNatClampNeg (nI q9)) (vp_nar .short ((-1))))))] H := hP
    replace hD : va_D A [(h0, .inr (7, [.int i_thrown, .int i_down, .int i_lasts, v_buffer, .int i_size, .int i_documents, v_gone, v_first, v_many, .ref hln, v_authors, v_sums, .ref hrow, v_made, .int i_madeSize, v_base, .int i_baseSize, v_text, .int i_textSize, .int i_textSteps, v_other, .int i_otherSize, v_piece, .int i_pieceSize, .int i_at, .int i_end, .int i_value])), (hrow, .inl (cB, 16384, .inl ((shf fr (bgs (lnq pq) q9) (pcL pq q9).length (16384 - (pcL pq q9).length))))), (hln, .inl (cL, 512, .inl (upd (fl) (Int32.toNatClampNeg (nI q9)) (vp_nar .short ((-1))))))] := hD
    have eS : upd (fl) (Int32.toNatClampNeg (nI q9)) (vp_nar .short ((-1))) = upd fl q9 (-1) := by rw [nI_clamp (by omega)]; exact congrArg (upd fl q9) (by decide +kernel)
    rw [eS] at hP hD
    have hP9 := hP.sub (ws' := [(h0, .inr (7, [.int i_thrown, .int i_down, .int i_lasts, v_buffer, .int i_size, .int i_documents, v_gone, v_first, v_many, .ref hln, v_authors, v_sums, .ref hrow, v_made, .int i_madeSize, v_base, .int i_baseSize, v_text, .int i_textSize, .int i_textSteps, v_other, .int i_otherSize, v_piece, .int i_pieceSize, .int i_at, .int i_end, .int i_value])), (hrow, .inl (cB, 16384, .inl ((shf fr (bgs (lnq pq) q9) (pcL pq q9).length (16384 - (pcL pq q9).length))))), (hln, .inl (cL, 512, .inl ((upd fl q9 (-1)))))]) [0, 1, 2] rfl
    have hD9 := hD.sub (ws' := [(h0, .inr (7, [.int i_thrown, .int i_down, .int i_lasts, v_buffer, .int i_size, .int i_documents, v_gone, v_first, v_many, .ref hln, v_authors, v_sums, .ref hrow, v_made, .int i_madeSize, v_base, .int i_baseSize, v_text, .int i_textSize, .int i_textSteps, v_other, .int i_otherSize, v_piece, .int i_pieceSize, .int i_at, .int i_end, .int i_value])), (hrow, .inl (cB, 16384, .inl ((shf fr (bgs (lnq pq) q9) (pcL pq q9).length (16384 - (pcL pq q9).length))))), (hln, .inl (cL, 512, .inl ((upd fl q9 (-1)))))]) [0, 1, 2] (by decide) rfl
    have hK9 := hK.sub (tys' := [(cB, .byte), (cL, .short)]) [0, 1] rfl
    exact W.vret hx hb hr (fun t ht hW => ⟨⟨(), rfl, trivial, (shf fr (bgs (lnq pq) q9) (pcL pq q9).length (16384 - (pcL pq q9).length)), (upd fl q9 (-1)), ⟨row_shf hrw hq9 rfl, lnq_up hfl⟩, by rw [ht]; exact hP9, va_K.moved hW.alike hK9, hD9⟩, hS.F ht⟩) hS.2.2 d_O_drop_68
set_option maxHeartbeats 4000000 in
set_option maxRecDepth 100000 in
theorem lo_ndd {p : Program} {l : Launch} {e : Env} {s : State} {m : MethodId} {args : Array Value} {below : List Frame} {meth : Method} {c : Code} {dC : Nat → ClassId} {dI : Nat → Nat → Nat} {Q : State → Prop} {H : Heap} {locs : List Loc} (h0 : Nat) (i_thrown : Int32) (i_down : Int32) (i_lasts : Int32) (v_buffer : Value) (i_size : Int32) (i_documents : Int32) (v_authors : Value) (v_sums : Value) (v_made : Value) (i_madeSize : Int32) (v_base : Value) (i_baseSize : Int32) (v_text : Value) (i_textSize : Int32) (i_textSteps : Int32) (v_other : Value) (i_otherSize : Int32) (v_piece : Value) (i_pieceSize : Int32) (i_at : Int32) (i_end : Int32) (i_value : Int32) (hrow : Nat) (cB : ClassId) (fr : Nat → Int32) (hln : Nat) (cL : ClassId) (fl : Nat → Int32) (hfi : Nat) (cI : ClassId) (ff : Nat → Int32) (hma : Nat) (fm : Nat → Int32) (hgo : Nat) (cZ : ClassId) (fg : Nat → Int32) (d9 : Nat) (r9 : Nat) (df : Nat) (dn : Nat) (hd9 : d9 < 8) (hff : ff d9 = nI df) (hfm : fm d9 = nI dn) (hgn : fg d9 = 0) (hfd : df ≤ dn) (hdn : dn ≤ 64) (hr9 : r9 < 64)
    (hx : p.tables.exec = Jvm.exec) (hb : c.code = prog_9_method_15_code) (hml : c.maxLocals = 5) (hown : s.vm.findClass R_O = some m.cls) (hw0 : ∀ w ∈ w0, w.before args s = true) (hN : nw_ok s) (hK : va_K (dC, dI) vwCl [(cB, .byte), (cL, .short), (cI, .int), (cZ, .boolean)] s) (hP : va_P (dC, dI) vwCl [(h0, .inr (7, [.int i_thrown, .int i_down, .int i_lasts, v_buffer, .int i_size, .int i_documents, .ref hgo, .ref hfi, .ref hma, .ref hln, v_authors, v_sums, .ref hrow, v_made, .int i_madeSize, v_base, .int i_baseSize, v_text, .int i_textSize, .int i_textSteps, v_other, .int i_otherSize, v_piece, .int i_pieceSize, .int i_at, .int i_end, .int i_value])), (hrow, .inl (cB, 16384, .inl (fr))), (hln, .inl (cL, 512, .inl (fl))), (hfi, .inl (cI, 8, .inl (ff))), (hma, .inl (cI, 8, .inl (fm))), (hgo, .inl (cZ, 8, .inl (fg)))] H)
    (kk : ∀ ls : Array Slot, lv_has ls 5 [(4, .int (nI (df + (dn - df)))), (3, .int (bI (ndd r9 df (dn - df)))), (0, .ref h0), (1, .int (nI d9)), (2, .int (nI r9))] → W p l e ({ frames := 2, cells := 0, slots := 0, locals := 47 } : Room) s m args below meth c H locs 0 0 Q (F0 m 63 ls [])) :
    ∀ (n j : Nat), j ≤ (dn - df) → (dn - df) < j + n → ∀ ls : Array Slot, lv_has ls 5 [(4, .int (nI (df + j))), (3, .int (bI (ndd r9 df j))), (0, .ref h0), (1, .int (nI d9)), (2, .int (nI r9))] → W p l e ({ frames := 2, cells := 0, slots := 0, locals := 47 } : Room) s m args below meth c H locs 0 0 Q (F0 m 18 ls []) := by
  intro n
  induction n with
  | zero => intro j  h1 h2; exact absurd h2 (by omega)
  | succ n ih =>
    intro j  hj hn  ls hl
    refine lv_iload hx hb d_O_cleans_18 (lv_at hl 0 rfl) ?_
    refine lv_aload_n hx hb d_O_cleans_20 rfl (lv_at hl 2 rfl) ?_
    refine va_get (D := (dC, dI)) (ci := 7) (v := .ref hma) (C := R_O) (T := F_O) (N := 27) hx hb hw0 in_O hown hK hP 0 rfl rfl 8 (by decide) (hw0 (.fieldLink R_O 25 "TextKeeperModel" "many" "[I") wm_339) (fun _ h9 => h9) rfl d_O_cleans_21 ?_
    refine lv_iload_n hx hb d_O_cleans_24 rfl (lv_at hl 3 rfl) ?_
    refine va_iald hx hb hK hP 4 2 rfl rfl (vp_in_nI (by omega) (by decide)) d_O_cleans_25 ?_
    refine lv_topi (fun x_1 ex_1 => ?_)
    refine lv_icmp_ge (tgt := 63) hx hb d_O_cleans_26 (by decide) (fun c_2 => ?_) (fun c_2 => ?_)
    · obtain rfl : j = dn - df := (by have h8 := c_2; rw [ex_1, nI_clamp (by omega), hfm] at h8; have := (nI_leI (by omega) (by omega)).mp h8; omega)
      exact kk ls (lv_sub hl [0, 1, 2, 3, 4] rfl)
    · have hlt : df + j < dn := (by rcases Nat.lt_or_ge (df + j) dn with z | z; exact z; exact absurd (by rw [ex_1, nI_clamp (by omega), hfm]; exact nI_le z (by omega)) c_2)
      refine lv_aload_n hx hb d_O_cleans_29 rfl (lv_at hl 2 rfl) ?_
      refine va_get (D := (dC, dI)) (ci := 7) (v := .ref hgo) (C := R_O) (T := F_O) (N := 27) hx hb hw0 in_O hown hK hP 0 rfl rfl 6 (by decide) (hw0 (.fieldLink R_O 17 "TextKeeperModel" "gone" "[Z") wm_333) (fun _ h9 => h9) rfl d_O_cleans_30 ?_
      refine lv_iload_n hx hb d_O_cleans_33 rfl (lv_at hl 3 rfl) ?_
      refine va_zald hx hb hK hP 5 3 rfl rfl (vp_in_nI (by omega) (by decide)) d_O_cleans_34 ?_
      refine lv_topi (fun x_3 ex_3 => ?_)
      refine lv_if_ne (tgt := 63) hx hb d_O_cleans_35 (by decide) (fun c_4 => absurd (by rw [ex_3, nI_clamp (by omega)]; exact hgn) c_4) (fun c_4 => ?_)
      refine lv_iload_n hx hb d_O_cleans_38 rfl (lv_at hl 1 rfl) ?_
      refine lv_if_ne (tgt := 51) hx hb d_O_cleans_39 (by decide) (fun c_5 => ?_) (fun c_5 => ?_)
      · refine lv_iconst (v := 1) hx hb d_O_cleans_51 (by decide) ?_
        refine lv_goto (tgt := 56) hx hb d_O_cleans_52 (by decide) ?_
        refine lv_istore_n (lv' := [(3, .int 1), (4, .int (nI (df + j))), (0, .ref h0), (1, .int (nI d9)), (2, .int (nI r9))]) hx hb d_O_cleans_56 rfl hl (by decide) rfl (fun ls hl => ?_)
        obtain ⟨x_6, ex_6⟩ : ∃ y : Int32, y = (nI (df + j)) + 1 := ⟨_, rfl⟩
        refine lv_iinc (v := x_6) (lv' := [(4, .int x_6), (3, .int 1), (0, .ref h0), (1, .int (nI d9)), (2, .int (nI r9))]) hx hb d_O_cleans_57 hl (k := 1) rfl (by rw [ex_6]; rfl) (by decide) rfl (fun ls hl => ?_)
        refine lv_goto (tgt := 18) hx hb d_O_cleans_60 (by decide) ?_
        have e3 : bI (ndd r9 df (j + 1)) = 1 := ndd_o c_5
        have e4 : x_6 = nI (df + (j + 1)) := by rw [ex_6]; exact nI_1 _
        exact ih (j + 1) (by omega) (by omega) ls (by rw [e3, ← e4]; exact (lv_sub hl [0, 1, 2, 3, 4] rfl))
      · refine lv_iload_n hx hb d_O_cleans_42 rfl (lv_at hl 4 rfl) ?_
        refine lv_iload hx hb d_O_cleans_43 (lv_at hl 0 rfl) ?_
        have hPc := hP.sub (ws' := []) [] rfl
        have hKc := hK.sub (tys' := []) [] rfl
        refine ps_i (va_runS (As := [.int (nI r9), .int (nI (df + j))]) (rest := []) ⟨hx, hb, hml, hown, hw0⟩ (o_isUnder l dC dI r9 (df + j) (by first | assumption | decide | omega) (by first | assumption | decide | omega)) (va_cwS 2 hw0 (gd_S 351 352 243 353 rfl rfl rfl rfl) rfl rfl rfl (by decide +kernel) ⟨by decide +kernel, by decide +kernel⟩) (prS_R hPc hKc hN) rfl rfl hl.1 rfl (lv_room (Nat.le_of_ble_eq_true rfl)) d_O_cleans_45 ⟨by decide +kernel, by decide +kernel⟩) (fun r_7 hr_7 => ?_)
        obtain rfl : r_7 = (bI (decide (wk (df + j) r9 = r9))) := hr_7
        refine lv_if_eq (tgt := 55) hx hb d_O_cleans_48 (by decide) (fun c_8 => ?_) (fun c_8 => ?_)
        · refine lv_iconst (v := 0) hx hb d_O_cleans_55 (by decide) ?_
          refine lv_istore_n (lv' := [(3, .int 0), (4, .int (nI (df + j))), (0, .ref h0), (1, .int (nI d9)), (2, .int (nI r9))]) hx hb d_O_cleans_56 rfl hl (by decide) rfl (fun ls hl => ?_)
          obtain ⟨x_9, ex_9⟩ : ∃ y : Int32, y = (nI (df + j)) + 1 := ⟨_, rfl⟩
          refine lv_iinc (v := x_9) (lv' := [(4, .int x_9), (3, .int 0), (0, .ref h0), (1, .int (nI d9)), (2, .int (nI r9))]) hx hb d_O_cleans_57 hl (k := 1) rfl (by rw [ex_9]; rfl) (by decide) rfl (fun ls hl => ?_)
          refine lv_goto (tgt := 18) hx hb d_O_cleans_60 (by decide) ?_
          have e3 : bI (ndd r9 df (j + 1)) = 0 := ndd_z c_5 (bI_e0 c_8)
          have e4 : x_9 = nI (df + (j + 1)) := by rw [ex_9]; exact nI_1 _
          exact ih (j + 1) (by omega) (by omega) ls (by rw [e3, ← e4]; exact (lv_sub hl [0, 1, 2, 3, 4] rfl))
        · refine lv_iconst (v := 1) hx hb d_O_cleans_51 (by decide) ?_
          refine lv_goto (tgt := 56) hx hb d_O_cleans_52 (by decide) ?_
          refine lv_istore_n (lv' := [(3, .int 1), (4, .int (nI (df + j))), (0, .ref h0), (1, .int (nI d9)), (2, .int (nI r9))]) hx hb d_O_cleans_56 rfl hl (by decide) rfl (fun ls hl => ?_)
          obtain ⟨x_10, ex_10⟩ : ∃ y : Int32, y = (nI (df + j)) + 1 := ⟨_, rfl⟩
          refine lv_iinc (v := x_10) (lv' := [(4, .int x_10), (3, .int 1), (0, .ref h0), (1, .int (nI d9)), (2, .int (nI r9))]) hx hb d_O_cleans_57 hl (k := 1) rfl (by rw [ex_10]; rfl) (by decide) rfl (fun ls hl => ?_)
          refine lv_goto (tgt := 18) hx hb d_O_cleans_60 (by decide) ?_
          have e3 : bI (ndd r9 df (j + 1)) = 1 := ndd_u (bI_ne c_8)
          have e4 : x_10 = nI (df + (j + 1)) := by rw [ex_10]; exact nI_1 _
          exact ih (j + 1) (by omega) (by omega) ls (by rw [e3, ← e4]; exact (lv_sub hl [0, 1, 2, 3, 4] rfl))
set_option maxHeartbeats 4000000 in
set_option maxRecDepth 100000 in
theorem lo_cln_T {p : Program} {l : Launch} {e : Env} {s : State} {m : MethodId} {args : Array Value} {below : List Frame} {meth : Method} {c : Code} {dC : Nat → ClassId} {dI : Nat → Nat → Nat} {A : Nat → Prop} {Q : State → Prop} (h0 : Nat) (i_thrown : Int32) (i_down : Int32) (i_lasts : Int32) (v_buffer : Value) (i_size : Int32) (i_documents : Int32) (v_authors : Value) (v_sums : Value) (v_made : Value) (i_madeSize : Int32) (v_base : Value) (i_baseSize : Int32) (v_text : Value) (i_textSize : Int32) (i_textSteps : Int32) (v_other : Value) (i_otherSize : Int32) (v_piece : Value) (i_pieceSize : Int32) (i_at : Int32) (i_end : Int32) (i_value : Int32) (hrow : Nat) (cB : ClassId) (hln : Nat) (cL : ClassId) (pq : Nat → Option (List Int32)) (hfi : Nat) (cI : ClassId) (ff : Nat → Int32) (hma : Nat) (fm : Nat → Int32) (hgo : Nat) (cZ : ClassId) (fg : Nat → Int32) (d9 : Nat) (df : Nat) (dn : Nat) (hd9 : d9 < 8) (hff : ff d9 = nI df) (hfm : fm d9 = nI dn) (hgn : fg d9 = 0) (hfd : df ≤ dn) (hdn : dn ≤ 64)
    (hx : p.tables.exec = Jvm.exec) (hb : c.code = prog_9_method_15_code) (hml : c.maxLocals = 5) (hown : s.vm.findClass R_O = some m.cls) (hw0 : ∀ w ∈ w0, w.before args s = true) (hN : nw_ok s) (hK : va_K (dC, dI) vwCl [(cB, .byte), (cL, .short), (cI, .int), (cZ, .boolean)] s) (hA : ∀ q : Nat, s.heap.size ≤ q → A q)
    (kk : ∀ (fr : Nat → Int32) (fl : Nat → Int32), (∀ i, i < 512 → fl i = vI (lnq (clr pq d9 (fun r => ndd r df (dn - df)) 64) i)) → (rowOk (clr pq d9 (fun r => ndd r df (dn - df)) 64) fr) → ∀ (H : Heap) (locs : List Loc), va_P (dC, dI) vwCl [(h0, .inr (7, [.int i_thrown, .int i_down, .int i_lasts, v_buffer, .int i_size, .int i_documents, .ref hgo, .ref hfi, .ref hma, .ref hln, v_authors, v_sums, .ref hrow, v_made, .int i_madeSize, v_base, .int i_baseSize, v_text, .int i_textSize, .int i_textSteps, v_other, .int i_otherSize, v_piece, .int i_pieceSize, .int i_at, .int i_end, .int i_value])), (hrow, .inl (cB, 16384, .inl (fr))), (hln, .inl (cL, 512, .inl (fl))), (hfi, .inl (cI, 8, .inl (ff))), (hma, .inl (cI, 8, .inl (fm))), (hgo, .inl (cZ, 8, .inl (fg)))] H → va_D A [(h0, .inr (7, [.int i_thrown, .int i_down, .int i_lasts, v_buffer, .int i_size, .int i_documents, .ref hgo, .ref hfi, .ref hma, .ref hln, v_authors, v_sums, .ref hrow, v_made, .int i_madeSize, v_base, .int i_baseSize, v_text, .int i_textSize, .int i_textSteps, v_other, .int i_otherSize, v_piece, .int i_pieceSize, .int i_at, .int i_end, .int i_value])), (hrow, .inl (cB, 16384, .inl (fr))), (hln, .inl (cL, 512, .inl (fl))), (hfi, .inl (cI, 8, .inl (ff))), (hma, .inl (cI, 8, .inl (fm))), (hgo, .inl (cZ, 8, .inl (fg)))] → va_S A s.heap H locs → ∀ ls : Array Slot, lv_has ls 5 [(2, .int (nI 64)), (0, .ref h0), (1, .int (nI d9))] → W p l e ({ frames := 2, cells := 0, slots := 0, locals := 47 } : Room) s m args below meth c H locs 0 0 Q (F0 m 98 ls [])) :
    ∀ (n j : Nat), j ≤ 64 → 64 < j + n → ∀ (fr : Nat → Int32) (fl : Nat → Int32), (∀ i, i < 512 → fl i = vI (lnq (clr pq d9 (fun r => ndd r df (dn - df)) j) i)) → (rowOk (clr pq d9 (fun r => ndd r df (dn - df)) j) fr) → ∀ (H : Heap) (locs : List Loc), va_P (dC, dI) vwCl [(h0, .inr (7, [.int i_thrown, .int i_down, .int i_lasts, v_buffer, .int i_size, .int i_documents, .ref hgo, .ref hfi, .ref hma, .ref hln, v_authors, v_sums, .ref hrow, v_made, .int i_madeSize, v_base, .int i_baseSize, v_text, .int i_textSize, .int i_textSteps, v_other, .int i_otherSize, v_piece, .int i_pieceSize, .int i_at, .int i_end, .int i_value])), (hrow, .inl (cB, 16384, .inl (fr))), (hln, .inl (cL, 512, .inl (fl))), (hfi, .inl (cI, 8, .inl (ff))), (hma, .inl (cI, 8, .inl (fm))), (hgo, .inl (cZ, 8, .inl (fg)))] H → va_D A [(h0, .inr (7, [.int i_thrown, .int i_down, .int i_lasts, v_buffer, .int i_size, .int i_documents, .ref hgo, .ref hfi, .ref hma, .ref hln, v_authors, v_sums, .ref hrow, v_made, .int i_madeSize, v_base, .int i_baseSize, v_text, .int i_textSize, .int i_textSteps, v_other, .int i_otherSize, v_piece, .int i_pieceSize, .int i_at, .int i_end, .int i_value])), (hrow, .inl (cB, 16384, .inl (fr))), (hln, .inl (cL, 512, .inl (fl))), (hfi, .inl (cI, 8, .inl (ff))), (hma, .inl (cI, 8, .inl (fm))), (hgo, .inl (cZ, 8, .inl (fg)))] → va_S A s.heap H locs → ∀ ls : Array Slot, lv_has ls 5 [(2, .int (nI j)), (0, .ref h0), (1, .int (nI d9))] → W p l e ({ frames := 2, cells := 0, slots := 0, locals := 47 } : Room) s m args below meth c H locs 0 0 Q (F0 m 2 ls []) := by
  intro n
  induction n with
  | zero => intro j h1 h2; exact absurd h2 (by omega)
  | succ n ih =>
    intro j hj hn fr fl hf0 hf1 H locs hP hD hS ls hl
    refine lv_iload_n hx hb d_O_cleans_2 rfl (lv_at hl 0 rfl) ?_
    refine lv_bipush (v := 64) hx hb d_O_cleans_3 (by decide +kernel) ?_
    refine lv_icmp_ge (tgt := 98) hx hb d_O_cleans_5 (by decide) (fun c_1 => ?_) (fun c_1 => ?_)
    · obtain rfl : j = 64 := x_geN (by omega) hj c_1
      exact kk fr fl hf0 hf1 _ _ hP hD hS ls (lv_sub hl [0, 1, 2] rfl)
    · have hlt : j < 64 := x_ltN (by omega) hj c_1
      refine lv_iconst (v := 0) hx hb d_O_cleans_8 (by decide) ?_
      refine lv_istore_n (lv' := [(3, .int 0), (2, .int (nI j)), (0, .ref h0), (1, .int (nI d9))]) hx hb d_O_cleans_9 rfl hl (by decide) rfl (fun ls hl => ?_)
      refine lv_aload_n hx hb d_O_cleans_10 rfl (lv_at hl 2 rfl) ?_
      refine va_get (D := (dC, dI)) (ci := 7) (v := .ref hfi) (C := R_O) (T := F_O) (N := 27) hx hb hw0 in_O hown hK hP 0 rfl rfl 7 (by decide) (hw0 (.fieldLink R_O 21 "TextKeeperModel" "first" "[I") wm_338) (fun _ h9 => h9) rfl d_O_cleans_11 ?_
      refine lv_iload_n hx hb d_O_cleans_14 rfl (lv_at hl 3 rfl) ?_
      refine va_iald hx hb hK hP 3 2 rfl rfl (vp_in_nI (by omega) (by decide)) d_O_cleans_15 ?_
      refine lv_topi (fun x_2 ex_2 => ?_)
      refine lv_istore (lv' := [(4, .int x_2), (3, .int 0), (2, .int (nI j)), (0, .ref h0), (1, .int (nI d9))]) hx hb d_O_cleans_16 hl (by decide) rfl (fun ls hl => ?_)
      refine lo_ndd h0 i_thrown i_down i_lasts v_buffer i_size i_documents v_authors v_sums v_made i_madeSize v_base i_baseSize v_text i_textSize i_textSteps v_other i_otherSize v_piece i_pieceSize i_at i_end i_value hrow cB fr hln cL fl hfi cI ff hma fm hgo cZ fg d9 j df dn hd9 hff hfm hgn hfd hdn (by omega) hx hb hml hown hw0 hN hK hP (fun ls hl => ?_) (dn - df + 1) 0 (by omega) (by omega) ls (by rw [show nI (df + 0) = x_2 from (by rw [ex_2, nI_clamp (by omega), hff, Nat.add_zero])]; exact (lv_sub hl [0, 1, 3, 4, 2] rfl))
      have hl := lv_sub hl [1, 4, 2, 3] rfl
      have hl : lv_has ls 5 [(3, .int (bI (ndd j df (dn - df)))), (2, .int (nI j)), (0, .ref h0), (1, .int (nI d9))] := hl
      refine lv_iload_n hx hb d_O_cleans_63 rfl (lv_at hl 0 rfl) ?_
      refine lv_if_ne (tgt := 92) hx hb d_O_cleans_64 (by decide) (fun c_3 => ?_) (fun c_3 => ?_)
      · refine lv_iinc (v := nI (j + 1)) (lv' := [(2, .int (nI (j + 1))), (3, .int (bI (ndd j df (dn - df)))), (0, .ref h0), (1, .int (nI d9))]) hx hb d_O_cleans_92 hl (k := 1) rfl (nI_1 j) (by decide) rfl (fun ls hl => ?_)
        refine lv_goto (tgt := 2) hx hb d_O_cleans_95 (by decide) ?_
        exact ih (j + 1) hlt (by omega) fr fl (by rw [← clr_keep (nd := (fun r => ndd r df (dn - df))) (bI_t c_3)]; exact hf0) (by rw [← clr_keep (nd := (fun r => ndd r df (dn - df))) (bI_t c_3)]; exact hf1) _ _ (hP.sub (ws' := [(h0, .inr (7, [.int i_thrown, .int i_down, .int i_lasts, v_buffer, .int i_size, .int i_documents, .ref hgo, .ref hfi, .ref hma, .ref hln, v_authors, v_sums, .ref hrow, v_made, .int i_madeSize, v_base, .int i_baseSize, v_text, .int i_textSize, .int i_textSteps, v_other, .int i_otherSize, v_piece, .int i_pieceSize, .int i_at, .int i_end, .int i_value])), (hrow, .inl (cB, 16384, .inl (fr))), (hln, .inl (cL, 512, .inl (fl))), (hfi, .inl (cI, 8, .inl (ff))), (hma, .inl (cI, 8, .inl (fm))), (hgo, .inl (cZ, 8, .inl (fg)))]) [0, 1, 2, 3, 4, 5] rfl) (hD.sub (ws' := [(h0, .inr (7, [.int i_thrown, .int i_down, .int i_lasts, v_buffer, .int i_size, .int i_documents, .ref hgo, .ref hfi, .ref hma, .ref hln, v_authors, v_sums, .ref hrow, v_made, .int i_madeSize, v_base, .int i_baseSize, v_text, .int i_textSize, .int i_textSteps, v_other, .int i_otherSize, v_piece, .int i_pieceSize, .int i_at, .int i_end, .int i_value])), (hrow, .inl (cB, 16384, .inl (fr))), (hln, .inl (cL, 512, .inl (fl))), (hfi, .inl (cI, 8, .inl (ff))), (hma, .inl (cI, 8, .inl (fm))), (hgo, .inl (cZ, 8, .inl (fg)))]) [0, 1, 2, 3, 4, 5] (by decide) rfl) hS ls (lv_sub hl [0, 2, 3] rfl)
      · refine lv_aload_n hx hb d_O_cleans_67 rfl (lv_at hl 2 rfl) ?_
        refine va_get (D := (dC, dI)) (ci := 7) (v := .ref hln) (C := R_O) (T := F_O) (N := 27) hx hb hw0 in_O hown hK hP 0 rfl rfl 9 (by decide) (hw0 (.fieldLink R_O 28 "TextKeeperModel" "lengths" "[S") wm_289) (fun _ h9 => h9) rfl d_O_cleans_68 ?_
        refine lv_bipush (v := 64) hx hb d_O_cleans_71 (by decide +kernel) ?_
        refine lv_iload_n hx hb d_O_cleans_73 rfl (lv_at hl 3 rfl) ?_
        refine lv_imul hx hb d_O_cleans_74 ?_
        refine lv_topi (fun x_4 ex_4 => ?_)
        obtain rfl : x_4 = (nI (64 * d9)) := by rw [ex_4]; exact (show nI 64 * nI d9 = nI (64 * d9) from pk_mul _ _)
        clear ex_4
        refine lv_iload_n hx hb d_O_cleans_75 rfl (lv_at hl 1 rfl) ?_
        refine lv_iadd hx hb d_O_cleans_76 ?_
        refine lv_topi (fun x_5 ex_5 => ?_)
        obtain rfl : x_5 = (nI (64 * d9 + j)) := by rw [ex_5]; exact nI_add _ _
        clear ex_5
        refine va_sald hx hb hK hP 2 1 rfl rfl (vp_in_nI (by omega) (by decide)) d_O_cleans_77 ?_
        refine lv_topi (fun x_6 ex_6 => ?_)
        refine lv_iconst (v := (-1)) hx hb d_O_cleans_78 (by decide) ?_
        refine lv_icmp_eq (tgt := 92) hx hb d_O_cleans_79 (by decide) (fun c_7 => ?_) (fun c_7 => ?_)
        · refine lv_iinc (v := nI (j + 1)) (lv' := [(2, .int (nI (j + 1))), (3, .int (bI (ndd j df (dn - df)))), (0, .ref h0), (1, .int (nI d9))]) hx hb d_O_cleans_92 hl (k := 1) rfl (nI_1 j) (by decide) rfl (fun ls hl => ?_)
          refine lv_goto (tgt := 2) hx hb d_O_cleans_95 (by decide) ?_
          exact ih (j + 1) hlt (by omega) fr fl (by rw [← clr_gone (nd := (fun r => ndd r df (dn - df))) (bI_f c_3) (lnq_none hf1 hf0 (by omega) (by have h9 := c_7; rw [ex_6, nI_clamp (by omega)] at h9; exact h9))]; exact hf0) (by rw [← clr_gone (nd := (fun r => ndd r df (dn - df))) (bI_f c_3) (lnq_none hf1 hf0 (by omega) (by have h9 := c_7; rw [ex_6, nI_clamp (by omega)] at h9; exact h9))]; exact hf1) _ _ (hP.sub (ws' := [(h0, .inr (7, [.int i_thrown, .int i_down, .int i_lasts, v_buffer, .int i_size, .int i_documents, .ref hgo, .ref hfi, .ref hma, .ref hln, v_authors, v_sums, .ref hrow, v_made, .int i_madeSize, v_base, .int i_baseSize, v_text, .int i_textSize, .int i_textSteps, v_other, .int i_otherSize, v_piece, .int i_pieceSize, .int i_at, .int i_end, .int i_value])), (hrow, .inl (cB, 16384, .inl (fr))), (hln, .inl (cL, 512, .inl (fl))), (hfi, .inl (cI, 8, .inl (ff))), (hma, .inl (cI, 8, .inl (fm))), (hgo, .inl (cZ, 8, .inl (fg)))]) [0, 1, 2, 3, 4, 5] rfl) (hD.sub (ws' := [(h0, .inr (7, [.int i_thrown, .int i_down, .int i_lasts, v_buffer, .int i_size, .int i_documents, .ref hgo, .ref hfi, .ref hma, .ref hln, v_authors, v_sums, .ref hrow, v_made, .int i_madeSize, v_base, .int i_baseSize, v_text, .int i_textSize, .int i_textSteps, v_other, .int i_otherSize, v_piece, .int i_pieceSize, .int i_at, .int i_end, .int i_value])), (hrow, .inl (cB, 16384, .inl (fr))), (hln, .inl (cL, 512, .inl (fl))), (hfi, .inl (cI, 8, .inl (ff))), (hma, .inl (cI, 8, .inl (fm))), (hgo, .inl (cZ, 8, .inl (fg)))]) [0, 1, 2, 3, 4, 5] (by decide) rfl) hS ls (lv_sub hl [0, 2, 3] rfl)
        · refine lv_aload_n hx hb d_O_cleans_82 rfl (lv_at hl 2 rfl) ?_
          refine lv_bipush (v := 64) hx hb d_O_cleans_83 (by decide +kernel) ?_
          refine lv_iload_n hx hb d_O_cleans_85 rfl (lv_at hl 3 rfl) ?_
          refine lv_imul hx hb d_O_cleans_86 ?_
          refine lv_topi (fun x_8 ex_8 => ?_)
          obtain rfl : x_8 = (nI (64 * d9)) := by rw [ex_8]; exact (show nI 64 * nI d9 = nI (64 * d9) from pk_mul _ _)
          clear ex_8
          refine lv_iload_n hx hb d_O_cleans_87 rfl (lv_at hl 1 rfl) ?_
          refine lv_iadd hx hb d_O_cleans_88 ?_
          refine lv_topi (fun x_9 ex_9 => ?_)
          obtain rfl : x_9 = (nI (64 * d9 + j)) := by rw [ex_9]; exact nI_add _ _
          clear ex_9
          have hPc := hP.sub (ws' := [(h0, .inr (7, [.int i_thrown, .int i_down, .int i_lasts, v_buffer, .int i_size, .int i_documents, .ref hgo, .ref hfi, .ref hma, .ref hln, v_authors, v_sums, .ref hrow, v_made, .int i_madeSize, v_base, .int i_baseSize, v_text, .int i_textSize, .int i_textSteps, v_other, .int i_otherSize, v_piece, .int i_pieceSize, .int i_at, .int i_end, .int i_value])), (hrow, .inl (cB, 16384, .inl ((fr)))), (hln, .inl (cL, 512, .inl ((fl))))]) [0, 1, 2] rfl
          have hKc := hK.sub (tys' := [(cB, .byte), (cL, .short)]) [0, 1] rfl
          have hDc := hD.sub (ws' := [(h0, .inr (7, [.int i_thrown, .int i_down, .int i_lasts, v_buffer, .int i_size, .int i_documents, .ref hgo, .ref hfi, .ref hma, .ref hln, v_authors, v_sums, .ref hrow, v_made, .int i_madeSize, v_base, .int i_baseSize, v_text, .int i_textSize, .int i_textSteps, v_other, .int i_otherSize, v_piece, .int i_pieceSize, .int i_at, .int i_end, .int i_value])), (hrow, .inl (cB, 16384, .inl ((fr)))), (hln, .inl (cL, 512, .inl ((fl))))]) [0, 1, 2] (by decide) rfl
          have hFc := va_free (wc := [(h0, .inr (7, [.int i_thrown, .int i_down, .int i_lasts, v_buffer, .int i_size, .int i_documents, .ref hgo, .ref hfi, .ref hma, .ref hln, v_authors, v_sums, .ref hrow, v_made, .int i_madeSize, v_base, .int i_baseSize, v_text, .int i_textSize, .int i_textSteps, v_other, .int i_otherSize, v_piece, .int i_pieceSize, .int i_at, .int i_end, .int i_value])), (hrow, .inl (cB, 16384, .inl ((fr)))), (hln, .inl (cL, 512, .inl ((fl))))]) hD hS hA [0, 1, 2] rfl
          refine va_callv (va_runV (As := [.int (nI (64 * d9 + j))]) (rest := []) ⟨hx, hb, hml, hown, hw0⟩ (o_drop l dC dI H.size h0 i_thrown i_down i_lasts v_buffer i_size i_documents (.ref hgo) (.ref hfi) (.ref hma) v_authors v_sums v_made i_madeSize v_base i_baseSize v_text i_textSize i_textSteps v_other i_otherSize v_piece i_pieceSize i_at i_end i_value hrow cB (fr) hln cL (fl) (clr pq d9 (fun r => ndd r df (dn - df)) j) (64 * d9 + j) (by first | assumption | decide | omega) (by first | assumption | decide | omega) (by first | assumption | decide | omega)) (cwV 1 hw0 (gd_Vm wm_354 wm_355 wm_356 wm_243 wm_357) rfl rfl rfl (by decide +kernel) ⟨by decide +kernel, by decide +kernel⟩) (prV_E hPc hKc hDc hN (va_recv hKc hPc (ci := 7) (q0 := 0) rfl rfl)) rfl rfl hl.1 rfl (lv_room (Nat.le_of_ble_eq_true rfl)) d_O_cleans_89 ⟨by decide +kernel, by decide +kernel⟩) hS (fun q _ h => hFc q h) hFc (fun u t H1 locs ht hvm hw hB hz1 hk1 hS => ?_)
          obtain ⟨fr2_10, fl2_11, ⟨hu_12_0, hu_12_1⟩, hP1, hK1, hD1⟩ := hB
          rw [ht] at hP1
          have hK1 := va_K.moved hvm.symm hK1
          try dsimp only at hw
          obtain ⟨hP, hD⟩ := va_join (wr := [(hfi, .inl (cI, 8, .inl (ff))), (hma, .inl (cI, 8, .inl (fm))), (hgo, .inl (cZ, 8, .inl (fg)))]) (w1 := [(h0, .inr (7, [.int i_thrown, .int i_down, .int i_lasts, v_buffer, .int i_size, .int i_documents, .ref hgo, .ref hfi, .ref hma, .ref hln, v_authors, v_sums, .ref hrow, v_made, .int i_madeSize, v_base, .int i_baseSize, v_text, .int i_textSize, .int i_textSteps, v_other, .int i_otherSize, v_piece, .int i_pieceSize, .int i_at, .int i_end, .int i_value])), (hrow, .inl (cB, 16384, .inl (fr2_10))), (hln, .inl (cL, 512, .inl (fl2_11)))]) hP hD [0, 1, 2] [3, 4, 5] rfl rfl (by decide) (by decide) hk1 hFc hP1 hD1
          generalize H1 = H at hP hS ⊢
          replace hP : va_P (dC, dI) vwCl [(hfi, .inl (cI, 8, .inl (ff))), (hma, .inl (cI, 8, .inl (fm))), (hgo, .inl (cZ, 8, .inl (fg))), (h0, .inr (7, [.int i_thrown, .int i_down, .int i_lasts, v_buffer, .int i_size, .int i_documents, .ref hgo, .ref hfi, .ref hma, .ref hln, v_authors, v_sums, .ref hrow, v_made, .int i_madeSize, v_base, .int i_baseSize, v_text, .int i_textSize, .int i_textSteps, v_other, .int i_otherSize, v_piece, .int i_pieceSize, .int i_at, .int i_end, .int i_value])), (hrow, .inl (cB, 16384, .inl (fr2_10))), (hln, .inl (cL, 512, .inl (fl2_11)))] H := hP
          replace hD : va_D A [(hfi, .inl (cI, 8, .inl (ff))), (hma, .inl (cI, 8, .inl (fm))), (hgo, .inl (cZ, 8, .inl (fg))), (h0, .inr (7, [.int i_thrown, .int i_down, .int i_lasts, v_buffer, .int i_size, .int i_documents, .ref hgo, .ref hfi, .ref hma, .ref hln, v_authors, v_sums, .ref hrow, v_made, .int i_madeSize, v_base, .int i_baseSize, v_text, .int i_textSize, .int i_textSteps, v_other, .int i_otherSize, v_piece, .int i_pieceSize, .int i_at, .int i_end, .int i_value])), (hrow, .inl (cB, 16384, .inl (fr2_10))), (hln, .inl (cL, 512, .inl (fl2_11)))] := hD
          replace hK : va_K (dC, dI) vwCl [(cB, .byte), (cL, .short), (cI, .int), (cZ, .boolean)] s := hK
          refine lv_iinc (v := nI (j + 1)) (lv' := [(2, .int (nI (j + 1))), (3, .int (bI (ndd j df (dn - df)))), (0, .ref h0), (1, .int (nI d9))]) hx hb d_O_cleans_92 hl (k := 1) rfl (nI_1 j) (by decide) rfl (fun ls hl => ?_)
          refine lv_goto (tgt := 2) hx hb d_O_cleans_95 (by decide) ?_
          exact ih (j + 1) hlt (by omega) fr2_10 fl2_11 (by rw [← clr_drop (nd := (fun r => ndd r df (dn - df))) (bI_f c_3)]; exact hu_12_1) (by rw [← clr_drop (nd := (fun r => ndd r df (dn - df))) (bI_f c_3)]; exact hu_12_0) _ _ (hP.sub (ws' := [(h0, .inr (7, [.int i_thrown, .int i_down, .int i_lasts, v_buffer, .int i_size, .int i_documents, .ref hgo, .ref hfi, .ref hma, .ref hln, v_authors, v_sums, .ref hrow, v_made, .int i_madeSize, v_base, .int i_baseSize, v_text, .int i_textSize, .int i_textSteps, v_other, .int i_otherSize, v_piece, .int i_pieceSize, .int i_at, .int i_end, .int i_value])), (hrow, .inl (cB, 16384, .inl (fr2_10))), (hln, .inl (cL, 512, .inl (fl2_11))), (hfi, .inl (cI, 8, .inl (ff))), (hma, .inl (cI, 8, .inl (fm))), (hgo, .inl (cZ, 8, .inl (fg)))]) [3, 4, 5, 0, 1, 2] rfl) (hD.sub (ws' := [(h0, .inr (7, [.int i_thrown, .int i_down, .int i_lasts, v_buffer, .int i_size, .int i_documents, .ref hgo, .ref hfi, .ref hma, .ref hln, v_authors, v_sums, .ref hrow, v_made, .int i_madeSize, v_base, .int i_baseSize, v_text, .int i_textSize, .int i_textSteps, v_other, .int i_otherSize, v_piece, .int i_pieceSize, .int i_at, .int i_end, .int i_value])), (hrow, .inl (cB, 16384, .inl (fr2_10))), (hln, .inl (cL, 512, .inl (fl2_11))), (hfi, .inl (cI, 8, .inl (ff))), (hma, .inl (cI, 8, .inl (fm))), (hgo, .inl (cZ, 8, .inl (fg)))]) [3, 4, 5, 0, 1, 2] (by decide) rfl) hS ls (lv_sub hl [0, 2, 3] rfl)
set_option maxHeartbeats 4000000 in
set_option maxRecDepth 100000 in
theorem o_cleans_T (l : Launch) (dC : Nat → ClassId) (dI : Nat → Nat → Nat) (sz : Nat) (h0 : Nat) (i_thrown : Int32) (i_down : Int32) (i_lasts : Int32) (v_buffer : Value) (i_size : Int32) (i_documents : Int32) (v_authors : Value) (v_sums : Value) (v_made : Value) (i_madeSize : Int32) (v_base : Value) (i_baseSize : Int32) (v_text : Value) (i_textSize : Int32) (i_textSteps : Int32) (v_other : Value) (i_otherSize : Int32) (v_piece : Value) (i_pieceSize : Int32) (i_at : Int32) (i_end : Int32) (i_value : Int32) (hrow : Nat) (cB : ClassId) (fr : Nat → Int32) (hln : Nat) (cL : ClassId) (fl : Nat → Int32) (pq : Nat → Option (List Int32)) (hfi : Nat) (cI : ClassId) (ff : Nat → Int32) (hma : Nat) (fm : Nat → Int32) (hgo : Nat) (cZ : ClassId) (fg : Nat → Int32) (d9 : Nat) (df : Nat) (dn : Nat) (hfl : ∀ j, j < 512 → fl j = vI (lnq pq j)) (hrw : rowOk pq fr) (hd9 : d9 < 8) (hff : ff d9 = nI df) (hfm : fm d9 = nI dn) (hgn : fg d9 = 0) (hfd : df ≤ dn) (hdn : dn ≤ 64) : Met l y_O_cleans k_O_cleans ({ frames := 2, cells := 0, slots := 0, locals := 47 } : Room) (va_Pc [.ref h0, .int (nI d9)] (pc_E (dC, dI) [(h0, .inr (7, [.int i_thrown, .int i_down, .int i_lasts, v_buffer, .int i_size, .int i_documents, .ref hgo, .ref hfi, .ref hma, .ref hln, v_authors, v_sums, .ref hrow, v_made, .int i_madeSize, v_base, .int i_baseSize, v_text, .int i_textSize, .int i_textSteps, v_other, .int i_otherSize, v_piece, .int i_pieceSize, .int i_at, .int i_end, .int i_value])), (hrow, .inl (cB, 16384, .inl (fr))), (hln, .inl (cL, 512, .inl (fl))), (hfi, .inl (cI, 8, .inl (ff))), (hma, .inl (cI, 8, .inl (fm))), (hgo, .inl (cZ, 8, .inl (fg)))] [(cB, .byte), (cL, .short), (cI, .int), (cZ, .boolean)] sz)) (va_Qv (fun (_ : Unit) => True) (fun (_ : Unit) t => ∃ (fr2 : Nat → Int32) (fl2 : Nat → Int32), (rowOk (clr pq d9 (fun r => ndd r df (dn - df)) 64) fr2 ∧ ∀ j, j < 512 → fl2 j = vI (lnq (clr pq d9 (fun r => ndd r df (dn - df)) 64) j)) ∧ at_E (dC, dI) (va_A [(h0, .inr (7, [.int i_thrown, .int i_down, .int i_lasts, v_buffer, .int i_size, .int i_documents, .ref hgo, .ref hfi, .ref hma, .ref hln, v_authors, v_sums, .ref hrow, v_made, .int i_madeSize, v_base, .int i_baseSize, v_text, .int i_textSize, .int i_textSteps, v_other, .int i_otherSize, v_piece, .int i_pieceSize, .int i_at, .int i_end, .int i_value])), (hrow, .inl (cB, 16384, .inl (fr))), (hln, .inl (cL, 512, .inl (fl))), (hfi, .inl (cI, 8, .inl (ff))), (hma, .inl (cI, 8, .inl (fm))), (hgo, .inl (cZ, 8, .inl (fg)))] sz) [(h0, .inr (7, [.int i_thrown, .int i_down, .int i_lasts, v_buffer, .int i_size, .int i_documents, .ref hgo, .ref hfi, .ref hma, .ref hln, v_authors, v_sums, .ref hrow, v_made, .int i_madeSize, v_base, .int i_baseSize, v_text, .int i_textSize, .int i_textSteps, v_other, .int i_otherSize, v_piece, .int i_pieceSize, .int i_at, .int i_end, .int i_value])), (hrow, .inl (cB, 16384, .inl (fr2))), (hln, .inl (cL, 512, .inl (fl2))), (hfi, .inl (cI, 8, .inl (ff))), (hma, .inl (cI, 8, .inl (fm))), (hgo, .inl (cZ, 8, .inl (fg)))] [(cB, .byte), (cL, .short), (cI, .int), (cZ, .boolean)] t) (va_A [(h0, .inr (7, [.int i_thrown, .int i_down, .int i_lasts, v_buffer, .int i_size, .int i_documents, .ref hgo, .ref hfi, .ref hma, .ref hln, v_authors, v_sums, .ref hrow, v_made, .int i_madeSize, v_base, .int i_baseSize, v_text, .int i_textSize, .int i_textSteps, v_other, .int i_otherSize, v_piece, .int i_pieceSize, .int i_at, .int i_end, .int i_value])), (hrow, .inl (cB, 16384, .inl (fr))), (hln, .inl (cL, 512, .inl (fl))), (hfi, .inl (cI, 8, .inl (ff))), (hma, .inl (cI, 8, .inl (fm))), (hgo, .inl (cZ, 8, .inl (fg)))] sz)) 0 0 (va_A [(h0, .inr (7, [.int i_thrown, .int i_down, .int i_lasts, v_buffer, .int i_size, .int i_documents, .ref hgo, .ref hfi, .ref hma, .ref hln, v_authors, v_sums, .ref hrow, v_made, .int i_madeSize, v_base, .int i_baseSize, v_text, .int i_textSize, .int i_textSteps, v_other, .int i_otherSize, v_piece, .int i_pieceSize, .int i_at, .int i_end, .int i_value])), (hrow, .inl (cB, 16384, .inl (fr))), (hln, .inl (cL, 512, .inl (fl))), (hfi, .inl (cI, 8, .inl (ff))), (hma, .inl (cI, 8, .inl (fm))), (hgo, .inl (cZ, 8, .inl (fg)))] sz) := by
  refine Met.ofW (cc := prog_9_method_15_code) (maxL := 5) (ret := none) (by decide) rfl ?_
  intro p e s m args below meth c s₁ B hml hv
  obtain ⟨rfl, hsz, hP, hK, hD0, hN⟩ := hv
  have hx := B.exec
  have hb := B.bytes
  have hr := B.returns
  have hts := atoms_spec (ws := k_O_cleans) B.pre
  have hw0 : ∀ w ∈ w0, w.before _ s = true := fun w h => hts w (List.mem_cons_of_mem _ h)
  have hown : s.vm.findClass R_O = some m.cls := findClass_of_methodNamed B.named
  have hlocks := B.notSynchronized
  subst hsz
  have hD := hD0.self (sz := s.heap.size)
  generalize hAe : va_A [(h0, .inr (7, [.int i_thrown, .int i_down, .int i_lasts, v_buffer, .int i_size, .int i_documents, .ref hgo, .ref hfi, .ref hma, .ref hln, v_authors, v_sums, .ref hrow, v_made, .int i_madeSize, v_base, .int i_baseSize, v_text, .int i_textSize, .int i_textSteps, v_other, .int i_otherSize, v_piece, .int i_pieceSize, .int i_at, .int i_end, .int i_value])), (hrow, .inl (cB, 16384, .inl (fr))), (hln, .inl (cL, 512, .inl (fl))), (hfi, .inl (cI, 8, .inl (ff))), (hma, .inl (cI, 8, .inl (fm))), (hgo, .inl (cZ, 8, .inl (fg)))] s.heap.size = A at hD ⊢
  have hA : ∀ q : Nat, s.heap.size ≤ q → A q := fun q h => by rw [← hAe]; exact Or.inr h
  have hS : va_S A s.heap s.heap [] := va_S.rf
  have hP : va_P (dC, dI) vwCl [(h0, .inr (7, [.int i_thrown, .int i_down, .int i_lasts, v_buffer, .int i_size, .int i_documents, .ref hgo, .ref hfi, .ref hma, .ref hln, v_authors, v_sums, .ref hrow, v_made, .int i_madeSize, v_base, .int i_baseSize, v_text, .int i_textSize, .int i_textSteps, v_other, .int i_otherSize, v_piece, .int i_pieceSize, .int i_at, .int i_end, .int i_value])), (hrow, .inl (cB, 16384, .inl (fr))), (hln, .inl (cL, 512, .inl (fl))), (hfi, .inl (cI, 8, .inl (ff))), (hma, .inl (cI, 8, .inl (fm))), (hgo, .inl (cZ, 8, .inl (fg)))] s.heap := hP
  have hl := lv_entry ([.ref h0, .int (nI d9)]) (n := 5) (Nat.le_of_ble_eq_true rfl)
  rw [lg_entry_eq]
  generalize (lg_sl ([.ref h0, .int (nI d9)]) ++ List.replicate (5 - (lg_sl ([.ref h0, .int (nI d9)])).length) Slot.unset).toArray = ls at hl ⊢
  have hl : lv_has ls 5 [(0, .ref h0), (1, .int (nI d9))] := hl
  refine lv_iconst (v := 0) hx hb d_O_cleans_0 (by decide) ?_
  refine lv_istore_n (lv' := [(2, .int 0), (0, .ref h0), (1, .int (nI d9))]) hx hb d_O_cleans_1 rfl hl (by decide) rfl (fun ls hl => ?_)
  refine lo_cln_T h0 i_thrown i_down i_lasts v_buffer i_size i_documents v_authors v_sums v_made i_madeSize v_base i_baseSize v_text i_textSize i_textSteps v_other i_otherSize v_piece i_pieceSize i_at i_end i_value hrow cB hln cL pq hfi cI ff hma fm hgo cZ fg d9 df dn hd9 hff hfm hgn hfd hdn hx hb hml hown hw0 hN hK hA (fun fr2 fl2 g0 g1 H locs hP hD hS ls hl => ?_) 65 0 (by omega) (by omega) fr fl (by rw [clr_0]; exact hfl) (by rw [clr_0]; exact hrw) _ _ hP hD hS ls (lv_sub hl [0, 1, 2] rfl)
  have hP9 := hP.sub (ws' := [(h0, .inr (7, [.int i_thrown, .int i_down, .int i_lasts, v_buffer, .int i_size, .int i_documents, .ref hgo, .ref hfi, .ref hma, .ref hln, v_authors, v_sums, .ref hrow, v_made, .int i_madeSize, v_base, .int i_baseSize, v_text, .int i_textSize, .int i_textSteps, v_other, .int i_otherSize, v_piece, .int i_pieceSize, .int i_at, .int i_end, .int i_value])), (hrow, .inl (cB, 16384, .inl (fr2))), (hln, .inl (cL, 512, .inl (fl2))), (hfi, .inl (cI, 8, .inl (ff))), (hma, .inl (cI, 8, .inl (fm))), (hgo, .inl (cZ, 8, .inl (fg)))]) [0, 1, 2, 3, 4, 5] rfl
  have hD9 := hD.sub (ws' := [(h0, .inr (7, [.int i_thrown, .int i_down, .int i_lasts, v_buffer, .int i_size, .int i_documents, .ref hgo, .ref hfi, .ref hma, .ref hln, v_authors, v_sums, .ref hrow, v_made, .int i_madeSize, v_base, .int i_baseSize, v_text, .int i_textSize, .int i_textSteps, v_other, .int i_otherSize, v_piece, .int i_pieceSize, .int i_at, .int i_end, .int i_value])), (hrow, .inl (cB, 16384, .inl (fr2))), (hln, .inl (cL, 512, .inl (fl2))), (hfi, .inl (cI, 8, .inl (ff))), (hma, .inl (cI, 8, .inl (fm))), (hgo, .inl (cZ, 8, .inl (fg)))]) [0, 1, 2, 3, 4, 5] (by decide) rfl
  have hK9 := hK.sub (tys' := [(cB, .byte), (cL, .short), (cI, .int), (cZ, .boolean)]) [0, 1, 2, 3] rfl
  exact W.vret hx hb hr (fun t ht hW => ⟨⟨(), rfl, trivial, fr2, fl2, ⟨g1, g0⟩, by rw [ht]; exact hP9, va_K.moved hW.alike hK9, hD9⟩, hS.F ht⟩) hS.2.2 d_O_cleans_98
set_option maxHeartbeats 4000000 in
set_option maxRecDepth 100000 in
theorem lo_cln_G {p : Program} {l : Launch} {e : Env} {s : State} {m : MethodId} {args : Array Value} {below : List Frame} {meth : Method} {c : Code} {dC : Nat → ClassId} {dI : Nat → Nat → Nat} {A : Nat → Prop} {Q : State → Prop} (h0 : Nat) (i_thrown : Int32) (i_down : Int32) (i_lasts : Int32) (v_buffer : Value) (i_size : Int32) (i_documents : Int32) (v_authors : Value) (v_sums : Value) (v_made : Value) (i_madeSize : Int32) (v_base : Value) (i_baseSize : Int32) (v_text : Value) (i_textSize : Int32) (i_textSteps : Int32) (v_other : Value) (i_otherSize : Int32) (v_piece : Value) (i_pieceSize : Int32) (i_at : Int32) (i_end : Int32) (i_value : Int32) (hrow : Nat) (cB : ClassId) (hln : Nat) (cL : ClassId) (pq : Nat → Option (List Int32)) (hfi : Nat) (cI : ClassId) (ff : Nat → Int32) (hma : Nat) (fm : Nat → Int32) (hgo : Nat) (cZ : ClassId) (fg : Nat → Int32) (d9 : Nat) (hd9 : d9 < 8) (hgn : ¬ fg d9 = 0)
    (hx : p.tables.exec = Jvm.exec) (hb : c.code = prog_9_method_15_code) (hml : c.maxLocals = 5) (hown : s.vm.findClass R_O = some m.cls) (hw0 : ∀ w ∈ w0, w.before args s = true) (hN : nw_ok s) (hK : va_K (dC, dI) vwCl [(cB, .byte), (cL, .short), (cI, .int), (cZ, .boolean)] s) (hA : ∀ q : Nat, s.heap.size ≤ q → A q)
    (kk : ∀ (fr : Nat → Int32) (fl : Nat → Int32), (∀ i, i < 512 → fl i = vI (lnq (clr pq d9 (fun _ => false) 64) i)) → (rowOk (clr pq d9 (fun _ => false) 64) fr) → ∀ (H : Heap) (locs : List Loc), va_P (dC, dI) vwCl [(h0, .inr (7, [.int i_thrown, .int i_down, .int i_lasts, v_buffer, .int i_size, .int i_documents, .ref hgo, .ref hfi, .ref hma, .ref hln, v_authors, v_sums, .ref hrow, v_made, .int i_madeSize, v_base, .int i_baseSize, v_text, .int i_textSize, .int i_textSteps, v_other, .int i_otherSize, v_piece, .int i_pieceSize, .int i_at, .int i_end, .int i_value])), (hrow, .inl (cB, 16384, .inl (fr))), (hln, .inl (cL, 512, .inl (fl))), (hfi, .inl (cI, 8, .inl (ff))), (hma, .inl (cI, 8, .inl (fm))), (hgo, .inl (cZ, 8, .inl (fg)))] H → va_D A [(h0, .inr (7, [.int i_thrown, .int i_down, .int i_lasts, v_buffer, .int i_size, .int i_documents, .ref hgo, .ref hfi, .ref hma, .ref hln, v_authors, v_sums, .ref hrow, v_made, .int i_madeSize, v_base, .int i_baseSize, v_text, .int i_textSize, .int i_textSteps, v_other, .int i_otherSize, v_piece, .int i_pieceSize, .int i_at, .int i_end, .int i_value])), (hrow, .inl (cB, 16384, .inl (fr))), (hln, .inl (cL, 512, .inl (fl))), (hfi, .inl (cI, 8, .inl (ff))), (hma, .inl (cI, 8, .inl (fm))), (hgo, .inl (cZ, 8, .inl (fg)))] → va_S A s.heap H locs → ∀ ls : Array Slot, lv_has ls 5 [(2, .int (nI 64)), (0, .ref h0), (1, .int (nI d9))] → W p l e ({ frames := 2, cells := 0, slots := 0, locals := 47 } : Room) s m args below meth c H locs 0 0 Q (F0 m 98 ls [])) :
    ∀ (n j : Nat), j ≤ 64 → 64 < j + n → ∀ (fr : Nat → Int32) (fl : Nat → Int32), (∀ i, i < 512 → fl i = vI (lnq (clr pq d9 (fun _ => false) j) i)) → (rowOk (clr pq d9 (fun _ => false) j) fr) → ∀ (H : Heap) (locs : List Loc), va_P (dC, dI) vwCl [(h0, .inr (7, [.int i_thrown, .int i_down, .int i_lasts, v_buffer, .int i_size, .int i_documents, .ref hgo, .ref hfi, .ref hma, .ref hln, v_authors, v_sums, .ref hrow, v_made, .int i_madeSize, v_base, .int i_baseSize, v_text, .int i_textSize, .int i_textSteps, v_other, .int i_otherSize, v_piece, .int i_pieceSize, .int i_at, .int i_end, .int i_value])), (hrow, .inl (cB, 16384, .inl (fr))), (hln, .inl (cL, 512, .inl (fl))), (hfi, .inl (cI, 8, .inl (ff))), (hma, .inl (cI, 8, .inl (fm))), (hgo, .inl (cZ, 8, .inl (fg)))] H → va_D A [(h0, .inr (7, [.int i_thrown, .int i_down, .int i_lasts, v_buffer, .int i_size, .int i_documents, .ref hgo, .ref hfi, .ref hma, .ref hln, v_authors, v_sums, .ref hrow, v_made, .int i_madeSize, v_base, .int i_baseSize, v_text, .int i_textSize, .int i_textSteps, v_other, .int i_otherSize, v_piece, .int i_pieceSize, .int i_at, .int i_end, .int i_value])), (hrow, .inl (cB, 16384, .inl (fr))), (hln, .inl (cL, 512, .inl (fl))), (hfi, .inl (cI, 8, .inl (ff))), (hma, .inl (cI, 8, .inl (fm))), (hgo, .inl (cZ, 8, .inl (fg)))] → va_S A s.heap H locs → ∀ ls : Array Slot, lv_has ls 5 [(2, .int (nI j)), (0, .ref h0), (1, .int (nI d9))] → W p l e ({ frames := 2, cells := 0, slots := 0, locals := 47 } : Room) s m args below meth c H locs 0 0 Q (F0 m 2 ls []) := by
  intro n
  induction n with
  | zero => intro j h1 h2; exact absurd h2 (by omega)
  | succ n ih =>
    intro j hj hn fr fl hf0 hf1 H locs hP hD hS ls hl
    refine lv_iload_n hx hb d_O_cleans_2 rfl (lv_at hl 0 rfl) ?_
    refine lv_bipush (v := 64) hx hb d_O_cleans_3 (by decide +kernel) ?_
    refine lv_icmp_ge (tgt := 98) hx hb d_O_cleans_5 (by decide) (fun c_1 => ?_) (fun c_1 => ?_)
    · obtain rfl : j = 64 := x_geN (by omega) hj c_1
      exact kk fr fl hf0 hf1 _ _ hP hD hS ls (lv_sub hl [0, 1, 2] rfl)
    · have hlt : j < 64 := x_ltN (by omega) hj c_1
      refine lv_iconst (v := 0) hx hb d_O_cleans_8 (by decide) ?_
      refine lv_istore_n (lv' := [(3, .int 0), (2, .int (nI j)), (0, .ref h0), (1, .int (nI d9))]) hx hb d_O_cleans_9 rfl hl (by decide) rfl (fun ls hl => ?_)
      refine lv_aload_n hx hb d_O_cleans_10 rfl (lv_at hl 2 rfl) ?_
      refine va_get (D := (dC, dI)) (ci := 7) (v := .ref hfi) (C := R_O) (T := F_O) (N := 27) hx hb hw0 in_O hown hK hP 0 rfl rfl 7 (by decide) (hw0 (.fieldLink R_O 21 "TextKeeperModel" "first" "[I") wm_338) (fun _ h9 => h9) rfl d_O_cleans_11 ?_
      refine lv_iload_n hx hb d_O_cleans_14 rfl (lv_at hl 3 rfl) ?_
      refine va_iald hx hb hK hP 3 2 rfl rfl (vp_in_nI (by omega) (by decide)) d_O_cleans_15 ?_
      refine lv_topi (fun x_2 ex_2 => ?_)
      refine lv_istore (lv' := [(4, .int x_2), (3, .int 0), (2, .int (nI j)), (0, .ref h0), (1, .int (nI d9))]) hx hb d_O_cleans_16 hl (by decide) rfl (fun ls hl => ?_)
      refine lv_iload hx hb d_O_cleans_18 (lv_at hl 0 rfl) ?_
      refine lv_aload_n hx hb d_O_cleans_20 rfl (lv_at hl 3 rfl) ?_
      refine va_get (D := (dC, dI)) (ci := 7) (v := .ref hma) (C := R_O) (T := F_O) (N := 27) hx hb hw0 in_O hown hK hP 0 rfl rfl 8 (by decide) (hw0 (.fieldLink R_O 25 "TextKeeperModel" "many" "[I") wm_339) (fun _ h9 => h9) rfl d_O_cleans_21 ?_
      refine lv_iload_n hx hb d_O_cleans_24 rfl (lv_at hl 4 rfl) ?_
      refine va_iald hx hb hK hP 4 2 rfl rfl (vp_in_nI (by omega) (by decide)) d_O_cleans_25 ?_
      refine lv_topi (fun x_3 ex_3 => ?_)
      refine lv_icmp_ge (tgt := 63) hx hb d_O_cleans_26 (by decide) (fun c_4 => ?_) (fun c_4 => ?_)
      · refine lv_iload_n hx hb d_O_cleans_63 rfl (lv_at hl 1 rfl) ?_
        refine lv_if_ne (tgt := 92) hx hb d_O_cleans_64 (by decide) (fun h9 => absurd h9 (by decide +kernel)) (fun _ => ?_)
        refine lv_aload_n hx hb d_O_cleans_67 rfl (lv_at hl 3 rfl) ?_
        refine va_get (D := (dC, dI)) (ci := 7) (v := .ref hln) (C := R_O) (T := F_O) (N := 27) hx hb hw0 in_O hown hK hP 0 rfl rfl 9 (by decide) (hw0 (.fieldLink R_O 28 "TextKeeperModel" "lengths" "[S") wm_289) (fun _ h9 => h9) rfl d_O_cleans_68 ?_
        refine lv_bipush (v := 64) hx hb d_O_cleans_71 (by decide +kernel) ?_
        refine lv_iload_n hx hb d_O_cleans_73 rfl (lv_at hl 4 rfl) ?_
        refine lv_imul hx hb d_O_cleans_74 ?_
        refine lv_topi (fun x_5 ex_5 => ?_)
        obtain rfl : x_5 = (nI (64 * d9)) := by rw [ex_5]; exact (show nI 64 * nI d9 = nI (64 * d9) from pk_mul _ _)
        clear ex_5
        refine lv_iload_n hx hb d_O_cleans_75 rfl (lv_at hl 2 rfl) ?_
        refine lv_iadd hx hb d_O_cleans_76 ?_
        refine lv_topi (fun x_6 ex_6 => ?_)
        obtain rfl : x_6 = (nI (64 * d9 + j)) := by rw [ex_6]; exact nI_add _ _
        clear ex_6
        refine va_sald hx hb hK hP 2 1 rfl rfl (vp_in_nI (by omega) (by decide)) d_O_cleans_77 ?_
        refine lv_topi (fun x_7 ex_7 => ?_)
        refine lv_iconst (v := (-1)) hx hb d_O_cleans_78 (by decide) ?_
        refine lv_icmp_eq (tgt := 92) hx hb d_O_cleans_79 (by decide) (fun c_8 => ?_) (fun c_8 => ?_)
        · refine lv_iinc (v := nI (j + 1)) (lv' := [(2, .int (nI (j + 1))), (4, .int x_2), (3, .int 0), (0, .ref h0), (1, .int (nI d9))]) hx hb d_O_cleans_92 hl (k := 2) rfl (nI_1 j) (by decide) rfl (fun ls hl => ?_)
          refine lv_goto (tgt := 2) hx hb d_O_cleans_95 (by decide) ?_
          exact ih (j + 1) hlt (by omega) fr fl (by rw [← clr_gone (nd := (fun _ => false)) (by rfl) (lnq_none hf1 hf0 (by omega) (by have h9 := c_8; rw [ex_7, nI_clamp (by omega)] at h9; exact h9))]; exact hf0) (by rw [← clr_gone (nd := (fun _ => false)) (by rfl) (lnq_none hf1 hf0 (by omega) (by have h9 := c_8; rw [ex_7, nI_clamp (by omega)] at h9; exact h9))]; exact hf1) _ _ (hP.sub (ws' := [(h0, .inr (7, [.int i_thrown, .int i_down, .int i_lasts, v_buffer, .int i_size, .int i_documents, .ref hgo, .ref hfi, .ref hma, .ref hln, v_authors, v_sums, .ref hrow, v_made, .int i_madeSize, v_base, .int i_baseSize, v_text, .int i_textSize, .int i_textSteps, v_other, .int i_otherSize, v_piece, .int i_pieceSize, .int i_at, .int i_end, .int i_value])), (hrow, .inl (cB, 16384, .inl (fr))), (hln, .inl (cL, 512, .inl (fl))), (hfi, .inl (cI, 8, .inl (ff))), (hma, .inl (cI, 8, .inl (fm))), (hgo, .inl (cZ, 8, .inl (fg)))]) [0, 1, 2, 3, 4, 5] rfl) (hD.sub (ws' := [(h0, .inr (7, [.int i_thrown, .int i_down, .int i_lasts, v_buffer, .int i_size, .int i_documents, .ref hgo, .ref hfi, .ref hma, .ref hln, v_authors, v_sums, .ref hrow, v_made, .int i_madeSize, v_base, .int i_baseSize, v_text, .int i_textSize, .int i_textSteps, v_other, .int i_otherSize, v_piece, .int i_pieceSize, .int i_at, .int i_end, .int i_value])), (hrow, .inl (cB, 16384, .inl (fr))), (hln, .inl (cL, 512, .inl (fl))), (hfi, .inl (cI, 8, .inl (ff))), (hma, .inl (cI, 8, .inl (fm))), (hgo, .inl (cZ, 8, .inl (fg)))]) [0, 1, 2, 3, 4, 5] (by decide) rfl) hS ls (lv_sub hl [0, 3, 4] rfl)
        · refine lv_aload_n hx hb d_O_cleans_82 rfl (lv_at hl 3 rfl) ?_
          refine lv_bipush (v := 64) hx hb d_O_cleans_83 (by decide +kernel) ?_
          refine lv_iload_n hx hb d_O_cleans_85 rfl (lv_at hl 4 rfl) ?_
          refine lv_imul hx hb d_O_cleans_86 ?_
          refine lv_topi (fun x_9 ex_9 => ?_)
          obtain rfl : x_9 = (nI (64 * d9)) := by rw [ex_9]; exact (show nI 64 * nI d9 = nI (64 * d9) from pk_mul _ _)
          clear ex_9
          refine lv_iload_n hx hb d_O_cleans_87 rfl (lv_at hl 2 rfl) ?_
          refine lv_iadd hx hb d_O_cleans_88 ?_
          refine lv_topi (fun x_10 ex_10 => ?_)
          obtain rfl : x_10 = (nI (64 * d9 + j)) := by rw [ex_10]; exact nI_add _ _
          clear ex_10
          have hPc := hP.sub (ws' := [(h0, .inr (7, [.int i_thrown, .int i_down, .int i_lasts, v_buffer, .int i_size, .int i_documents, .ref hgo, .ref hfi, .ref hma, .ref hln, v_authors, v_sums, .ref hrow, v_made, .int i_madeSize, v_base, .int i_baseSize, v_text, .int i_textSize, .int i_textSteps, v_other, .int i_otherSize, v_piece, .int i_pieceSize, .int i_at, .int i_end, .int i_value])), (hrow, .inl (cB, 16384, .inl ((fr)))), (hln, .inl (cL, 512, .inl ((fl))))]) [0, 1, 2] rfl
          have hKc := hK.sub (tys' := [(cB, .byte), (cL, .short)]) [0, 1] rfl
          have hDc := hD.sub (ws' := [(h0, .inr (7, [.int i_thrown, .int i_down, .int i_lasts, v_buffer, .int i_size, .int i_documents, .ref hgo, .ref hfi, .ref hma, .ref hln, v_authors, v_sums, .ref hrow, v_made, .int i_madeSize, v_base, .int i_baseSize, v_text, .int i_textSize, .int i_textSteps, v_other, .int i_otherSize, v_piece, .int i_pieceSize, .int i_at, .int i_end, .int i_value])), (hrow, .inl (cB, 16384, .inl ((fr)))), (hln, .inl (cL, 512, .inl ((fl))))]) [0, 1, 2] (by decide) rfl
          have hFc := va_free (wc := [(h0, .inr (7, [.int i_thrown, .int i_down, .int i_lasts, v_buffer, .int i_size, .int i_documents, .ref hgo, .ref hfi, .ref hma, .ref hln, v_authors, v_sums, .ref hrow, v_made, .int i_madeSize, v_base, .int i_baseSize, v_text, .int i_textSize, .int i_textSteps, v_other, .int i_otherSize, v_piece, .int i_pieceSize, .int i_at, .int i_end, .int i_value])), (hrow, .inl (cB, 16384, .inl ((fr)))), (hln, .inl (cL, 512, .inl ((fl))))]) hD hS hA [0, 1, 2] rfl
          refine va_callv (va_runV (As := [.int (nI (64 * d9 + j))]) (rest := []) ⟨hx, hb, hml, hown, hw0⟩ (o_drop l dC dI H.size h0 i_thrown i_down i_lasts v_buffer i_size i_documents (.ref hgo) (.ref hfi) (.ref hma) v_authors v_sums v_made i_madeSize v_base i_baseSize v_text i_textSize i_textSteps v_other i_otherSize v_piece i_pieceSize i_at i_end i_value hrow cB (fr) hln cL (fl) (clr pq d9 (fun _ => false) j) (64 * d9 + j) (by first | assumption | decide | omega) (by first | assumption | decide | omega) (by first | assumption | decide | omega)) (cwV 1 hw0 (gd_Vm wm_354 wm_355 wm_356 wm_243 wm_357) rfl rfl rfl (by decide +kernel) ⟨by decide +kernel, by decide +kernel⟩) (prV_E hPc hKc hDc hN (va_recv hKc hPc (ci := 7) (q0 := 0) rfl rfl)) rfl rfl hl.1 rfl (lv_room (Nat.le_of_ble_eq_true rfl)) d_O_cleans_89 ⟨by decide +kernel, by decide +kernel⟩) hS (fun q _ h => hFc q h) hFc (fun u t H1 locs ht hvm hw hB hz1 hk1 hS => ?_)
          obtain ⟨fr2_11, fl2_12, ⟨hu_13_0, hu_13_1⟩, hP1, hK1, hD1⟩ := hB
          rw [ht] at hP1
          have hK1 := va_K.moved hvm.symm hK1
          try dsimp only at hw
          obtain ⟨hP, hD⟩ := va_join (wr := [(hfi, .inl (cI, 8, .inl (ff))), (hma, .inl (cI, 8, .inl (fm))), (hgo, .inl (cZ, 8, .inl (fg)))]) (w1 := [(h0, .inr (7, [.int i_thrown, .int i_down, .int i_lasts, v_buffer, .int i_size, .int i_documents, .ref hgo, .ref hfi, .ref hma, .ref hln, v_authors, v_sums, .ref hrow, v_made, .int i_madeSize, v_base, .int i_baseSize, v_text, .int i_textSize, .int i_textSteps, v_other, .int i_otherSize, v_piece, .int i_pieceSize, .int i_at, .int i_end, .int i_value])), (hrow, .inl (cB, 16384, .inl (fr2_11))), (hln, .inl (cL, 512, .inl (fl2_12)))]) hP hD [0, 1, 2] [3, 4, 5] rfl rfl (by decide) (by decide) hk1 hFc hP1 hD1
          generalize H1 = H at hP hS ⊢
          replace hP : va_P (dC, dI) vwCl [(hfi, .inl (cI, 8, .inl (ff))), (hma, .inl (cI, 8, .inl (fm))), (hgo, .inl (cZ, 8, .inl (fg))), (h0, .inr (7, [.int i_thrown, .int i_down, .int i_lasts, v_buffer, .int i_size, .int i_documents, .ref hgo, .ref hfi, .ref hma, .ref hln, v_authors, v_sums, .ref hrow, v_made, .int i_madeSize, v_base, .int i_baseSize, v_text, .int i_textSize, .int i_textSteps, v_other, .int i_otherSize, v_piece, .int i_pieceSize, .int i_at, .int i_end, .int i_value])), (hrow, .inl (cB, 16384, .inl (fr2_11))), (hln, .inl (cL, 512, .inl (fl2_12)))] H := hP
          replace hD : va_D A [(hfi, .inl (cI, 8, .inl (ff))), (hma, .inl (cI, 8, .inl (fm))), (hgo, .inl (cZ, 8, .inl (fg))), (h0, .inr (7, [.int i_thrown, .int i_down, .int i_lasts, v_buffer, .int i_size, .int i_documents, .ref hgo, .ref hfi, .ref hma, .ref hln, v_authors, v_sums, .ref hrow, v_made, .int i_madeSize, v_base, .int i_baseSize, v_text, .int i_textSize, .int i_textSteps, v_other, .int i_otherSize, v_piece, .int i_pieceSize, .int i_at, .int i_end, .int i_value])), (hrow, .inl (cB, 16384, .inl (fr2_11))), (hln, .inl (cL, 512, .inl (fl2_12)))] := hD
          replace hK : va_K (dC, dI) vwCl [(cB, .byte), (cL, .short), (cI, .int), (cZ, .boolean)] s := hK
          refine lv_iinc (v := nI (j + 1)) (lv' := [(2, .int (nI (j + 1))), (4, .int x_2), (3, .int 0), (0, .ref h0), (1, .int (nI d9))]) hx hb d_O_cleans_92 hl (k := 2) rfl (nI_1 j) (by decide) rfl (fun ls hl => ?_)
          refine lv_goto (tgt := 2) hx hb d_O_cleans_95 (by decide) ?_
          exact ih (j + 1) hlt (by omega) fr2_11 fl2_12 (by rw [← clr_drop (nd := (fun _ => false)) (by rfl)]; exact hu_13_1) (by rw [← clr_drop (nd := (fun _ => false)) (by rfl)]; exact hu_13_0) _ _ (hP.sub (ws' := [(h0, .inr (7, [.int i_thrown, .int i_down, .int i_lasts, v_buffer, .int i_size, .int i_documents, .ref hgo, .ref hfi, .ref hma, .ref hln, v_authors, v_sums, .ref hrow, v_made, .int i_madeSize, v_base, .int i_baseSize, v_text, .int i_textSize, .int i_textSteps, v_other, .int i_otherSize, v_piece, .int i_pieceSize, .int i_at, .int i_end, .int i_value])), (hrow, .inl (cB, 16384, .inl (fr2_11))), (hln, .inl (cL, 512, .inl (fl2_12))), (hfi, .inl (cI, 8, .inl (ff))), (hma, .inl (cI, 8, .inl (fm))), (hgo, .inl (cZ, 8, .inl (fg)))]) [3, 4, 5, 0, 1, 2] rfl) (hD.sub (ws' := [(h0, .inr (7, [.int i_thrown, .int i_down, .int i_lasts, v_buffer, .int i_size, .int i_documents, .ref hgo, .ref hfi, .ref hma, .ref hln, v_authors, v_sums, .ref hrow, v_made, .int i_madeSize, v_base, .int i_baseSize, v_text, .int i_textSize, .int i_textSteps, v_other, .int i_otherSize, v_piece, .int i_pieceSize, .int i_at, .int i_end, .int i_value])), (hrow, .inl (cB, 16384, .inl (fr2_11))), (hln, .inl (cL, 512, .inl (fl2_12))), (hfi, .inl (cI, 8, .inl (ff))), (hma, .inl (cI, 8, .inl (fm))), (hgo, .inl (cZ, 8, .inl (fg)))]) [3, 4, 5, 0, 1, 2] (by decide) rfl) hS ls (lv_sub hl [0, 3, 4] rfl)
      · refine lv_aload_n hx hb d_O_cleans_29 rfl (lv_at hl 3 rfl) ?_
        refine va_get (D := (dC, dI)) (ci := 7) (v := .ref hgo) (C := R_O) (T := F_O) (N := 27) hx hb hw0 in_O hown hK hP 0 rfl rfl 6 (by decide) (hw0 (.fieldLink R_O 17 "TextKeeperModel" "gone" "[Z") wm_333) (fun _ h9 => h9) rfl d_O_cleans_30 ?_
        refine lv_iload_n hx hb d_O_cleans_33 rfl (lv_at hl 4 rfl) ?_
        refine va_zald hx hb hK hP 5 3 rfl rfl (vp_in_nI (by omega) (by decide)) d_O_cleans_34 ?_
        refine lv_topi (fun x_14 ex_14 => ?_)
        refine lv_if_ne (tgt := 63) hx hb d_O_cleans_35 (by decide) (fun c_15 => ?_) (fun c_15 => absurd c_15 (by rw [ex_14, nI_clamp (by omega)]; exact hgn))
        refine lv_iload_n hx hb d_O_cleans_63 rfl (lv_at hl 1 rfl) ?_
        refine lv_if_ne (tgt := 92) hx hb d_O_cleans_64 (by decide) (fun h9 => absurd h9 (by decide +kernel)) (fun _ => ?_)
        refine lv_aload_n hx hb d_O_cleans_67 rfl (lv_at hl 3 rfl) ?_
        refine va_get (D := (dC, dI)) (ci := 7) (v := .ref hln) (C := R_O) (T := F_O) (N := 27) hx hb hw0 in_O hown hK hP 0 rfl rfl 9 (by decide) (hw0 (.fieldLink R_O 28 "TextKeeperModel" "lengths" "[S") wm_289) (fun _ h9 => h9) rfl d_O_cleans_68 ?_
        refine lv_bipush (v := 64) hx hb d_O_cleans_71 (by decide +kernel) ?_
        refine lv_iload_n hx hb d_O_cleans_73 rfl (lv_at hl 4 rfl) ?_
        refine lv_imul hx hb d_O_cleans_74 ?_
        refine lv_topi (fun x_16 ex_16 => ?_)
        obtain rfl : x_16 = (nI (64 * d9)) := by rw [ex_16]; exact (show nI 64 * nI d9 = nI (64 * d9) from pk_mul _ _)
        clear ex_16
        refine lv_iload_n hx hb d_O_cleans_75 rfl (lv_at hl 2 rfl) ?_
        refine lv_iadd hx hb d_O_cleans_76 ?_
        refine lv_topi (fun x_17 ex_17 => ?_)
        obtain rfl : x_17 = (nI (64 * d9 + j)) := by rw [ex_17]; exact nI_add _ _
        clear ex_17
        refine va_sald hx hb hK hP 2 1 rfl rfl (vp_in_nI (by omega) (by decide)) d_O_cleans_77 ?_
        refine lv_topi (fun x_18 ex_18 => ?_)
        refine lv_iconst (v := (-1)) hx hb d_O_cleans_78 (by decide) ?_
        refine lv_icmp_eq (tgt := 92) hx hb d_O_cleans_79 (by decide) (fun c_19 => ?_) (fun c_19 => ?_)
        · refine lv_iinc (v := nI (j + 1)) (lv' := [(2, .int (nI (j + 1))), (4, .int x_2), (3, .int 0), (0, .ref h0), (1, .int (nI d9))]) hx hb d_O_cleans_92 hl (k := 2) rfl (nI_1 j) (by decide) rfl (fun ls hl => ?_)
          refine lv_goto (tgt := 2) hx hb d_O_cleans_95 (by decide) ?_
          exact ih (j + 1) hlt (by omega) fr fl (by rw [← clr_gone (nd := (fun _ => false)) (by rfl) (lnq_none hf1 hf0 (by omega) (by have h9 := c_19; rw [ex_18, nI_clamp (by omega)] at h9; exact h9))]; exact hf0) (by rw [← clr_gone (nd := (fun _ => false)) (by rfl) (lnq_none hf1 hf0 (by omega) (by have h9 := c_19; rw [ex_18, nI_clamp (by omega)] at h9; exact h9))]; exact hf1) _ _ (hP.sub (ws' := [(h0, .inr (7, [.int i_thrown, .int i_down, .int i_lasts, v_buffer, .int i_size, .int i_documents, .ref hgo, .ref hfi, .ref hma, .ref hln, v_authors, v_sums, .ref hrow, v_made, .int i_madeSize, v_base, .int i_baseSize, v_text, .int i_textSize, .int i_textSteps, v_other, .int i_otherSize, v_piece, .int i_pieceSize, .int i_at, .int i_end, .int i_value])), (hrow, .inl (cB, 16384, .inl (fr))), (hln, .inl (cL, 512, .inl (fl))), (hfi, .inl (cI, 8, .inl (ff))), (hma, .inl (cI, 8, .inl (fm))), (hgo, .inl (cZ, 8, .inl (fg)))]) [0, 1, 2, 3, 4, 5] rfl) (hD.sub (ws' := [(h0, .inr (7, [.int i_thrown, .int i_down, .int i_lasts, v_buffer, .int i_size, .int i_documents, .ref hgo, .ref hfi, .ref hma, .ref hln, v_authors, v_sums, .ref hrow, v_made, .int i_madeSize, v_base, .int i_baseSize, v_text, .int i_textSize, .int i_textSteps, v_other, .int i_otherSize, v_piece, .int i_pieceSize, .int i_at, .int i_end, .int i_value])), (hrow, .inl (cB, 16384, .inl (fr))), (hln, .inl (cL, 512, .inl (fl))), (hfi, .inl (cI, 8, .inl (ff))), (hma, .inl (cI, 8, .inl (fm))), (hgo, .inl (cZ, 8, .inl (fg)))]) [0, 1, 2, 3, 4, 5] (by decide) rfl) hS ls (lv_sub hl [0, 3, 4] rfl)
        · refine lv_aload_n hx hb d_O_cleans_82 rfl (lv_at hl 3 rfl) ?_
          refine lv_bipush (v := 64) hx hb d_O_cleans_83 (by decide +kernel) ?_
          refine lv_iload_n hx hb d_O_cleans_85 rfl (lv_at hl 4 rfl) ?_
          refine lv_imul hx hb d_O_cleans_86 ?_
          refine lv_topi (fun x_20 ex_20 => ?_)
          obtain rfl : x_20 = (nI (64 * d9)) := by rw [ex_20]; exact (show nI 64 * nI d9 = nI (64 * d9) from pk_mul _ _)
          clear ex_20
          refine lv_iload_n hx hb d_O_cleans_87 rfl (lv_at hl 2 rfl) ?_
          refine lv_iadd hx hb d_O_cleans_88 ?_
          refine lv_topi (fun x_21 ex_21 => ?_)
          obtain rfl : x_21 = (nI (64 * d9 + j)) := by rw [ex_21]; exact nI_add _ _
          clear ex_21
          have hPc := hP.sub (ws' := [(h0, .inr (7, [.int i_thrown, .int i_down, .int i_lasts, v_buffer, .int i_size, .int i_documents, .ref hgo, .ref hfi, .ref hma, .ref hln, v_authors, v_sums, .ref hrow, v_made, .int i_madeSize, v_base, .int i_baseSize, v_text, .int i_textSize, .int i_textSteps, v_other, .int i_otherSize, v_piece, .int i_pieceSize, .int i_at, .int i_end, .int i_value])), (hrow, .inl (cB, 16384, .inl ((fr)))), (hln, .inl (cL, 512, .inl ((fl))))]) [0, 1, 2] rfl
          have hKc := hK.sub (tys' := [(cB, .byte), (cL, .short)]) [0, 1] rfl
          have hDc := hD.sub (ws' := [(h0, .inr (7, [.int i_thrown, .int i_down, .int i_lasts, v_buffer, .int i_size, .int i_documents, .ref hgo, .ref hfi, .ref hma, .ref hln, v_authors, v_sums, .ref hrow, v_made, .int i_madeSize, v_base, .int i_baseSize, v_text, .int i_textSize, .int i_textSteps, v_other, .int i_otherSize, v_piece, .int i_pieceSize, .int i_at, .int i_end, .int i_value])), (hrow, .inl (cB, 16384, .inl ((fr)))), (hln, .inl (cL, 512, .inl ((fl))))]) [0, 1, 2] (by decide) rfl
          have hFc := va_free (wc := [(h0, .inr (7, [.int i_thrown, .int i_down, .int i_lasts, v_buffer, .int i_size, .int i_documents, .ref hgo, .ref hfi, .ref hma, .ref hln, v_authors, v_sums, .ref hrow, v_made, .int i_madeSize, v_base, .int i_baseSize, v_text, .int i_textSize, .int i_textSteps, v_other, .int i_otherSize, v_piece, .int i_pieceSize, .int i_at, .int i_end, .int i_value])), (hrow, .inl (cB, 16384, .inl ((fr)))), (hln, .inl (cL, 512, .inl ((fl))))]) hD hS hA [0, 1, 2] rfl
          refine va_callv (va_runV (As := [.int (nI (64 * d9 + j))]) (rest := []) ⟨hx, hb, hml, hown, hw0⟩ (o_drop l dC dI H.size h0 i_thrown i_down i_lasts v_buffer i_size i_documents (.ref hgo) (.ref hfi) (.ref hma) v_authors v_sums v_made i_madeSize v_base i_baseSize v_text i_textSize i_textSteps v_other i_otherSize v_piece i_pieceSize i_at i_end i_value hrow cB (fr) hln cL (fl) (clr pq d9 (fun _ => false) j) (64 * d9 + j) (by first | assumption | decide | omega) (by first | assumption | decide | omega) (by first | assumption | decide | omega)) (cwV 1 hw0 (gd_Vm wm_354 wm_355 wm_356 wm_243 wm_357) rfl rfl rfl (by decide +kernel) ⟨by decide +kernel, by decide +kernel⟩) (prV_E hPc hKc hDc hN (va_recv hKc hPc (ci := 7) (q0 := 0) rfl rfl)) rfl rfl hl.1 rfl (lv_room (Nat.le_of_ble_eq_true rfl)) d_O_cleans_89 ⟨by decide +kernel, by decide +kernel⟩) hS (fun q _ h => hFc q h) hFc (fun u t H1 locs ht hvm hw hB hz1 hk1 hS => ?_)
          obtain ⟨fr2_22, fl2_23, ⟨hu_24_0, hu_24_1⟩, hP1, hK1, hD1⟩ := hB
          rw [ht] at hP1
          have hK1 := va_K.moved hvm.symm hK1
          try dsimp only at hw
          obtain ⟨hP, hD⟩ := va_join (wr := [(hfi, .inl (cI, 8, .inl (ff))), (hma, .inl (cI, 8, .inl (fm))), (hgo, .inl (cZ, 8, .inl (fg)))]) (w1 := [(h0, .inr (7, [.int i_thrown, .int i_down, .int i_lasts, v_buffer, .int i_size, .int i_documents, .ref hgo, .ref hfi, .ref hma, .ref hln, v_authors, v_sums, .ref hrow, v_made, .int i_madeSize, v_base, .int i_baseSize, v_text, .int i_textSize, .int i_textSteps, v_other, .int i_otherSize, v_piece, .int i_pieceSize, .int i_at, .int i_end, .int i_value])), (hrow, .inl (cB, 16384, .inl (fr2_22))), (hln, .inl (cL, 512, .inl (fl2_23)))]) hP hD [0, 1, 2] [3, 4, 5] rfl rfl (by decide) (by decide) hk1 hFc hP1 hD1
          generalize H1 = H at hP hS ⊢
          replace hP : va_P (dC, dI) vwCl [(hfi, .inl (cI, 8, .inl (ff))), (hma, .inl (cI, 8, .inl (fm))), (hgo, .inl (cZ, 8, .inl (fg))), (h0, .inr (7, [.int i_thrown, .int i_down, .int i_lasts, v_buffer, .int i_size, .int i_documents, .ref hgo, .ref hfi, .ref hma, .ref hln, v_authors, v_sums, .ref hrow, v_made, .int i_madeSize, v_base, .int i_baseSize, v_text, .int i_textSize, .int i_textSteps, v_other, .int i_otherSize, v_piece, .int i_pieceSize, .int i_at, .int i_end, .int i_value])), (hrow, .inl (cB, 16384, .inl (fr2_22))), (hln, .inl (cL, 512, .inl (fl2_23)))] H := hP
          replace hD : va_D A [(hfi, .inl (cI, 8, .inl (ff))), (hma, .inl (cI, 8, .inl (fm))), (hgo, .inl (cZ, 8, .inl (fg))), (h0, .inr (7, [.int i_thrown, .int i_down, .int i_lasts, v_buffer, .int i_size, .int i_documents, .ref hgo, .ref hfi, .ref hma, .ref hln, v_authors, v_sums, .ref hrow, v_made, .int i_madeSize, v_base, .int i_baseSize, v_text, .int i_textSize, .int i_textSteps, v_other, .int i_otherSize, v_piece, .int i_pieceSize, .int i_at, .int i_end, .int i_value])), (hrow, .inl (cB, 16384, .inl (fr2_22))), (hln, .inl (cL, 512, .inl (fl2_23)))] := hD
          replace hK : va_K (dC, dI) vwCl [(cB, .byte), (cL, .short), (cI, .int), (cZ, .boolean)] s := hK
          refine lv_iinc (v := nI (j + 1)) (lv' := [(2, .int (nI (j + 1))), (4, .int x_2), (3, .int 0), (0, .ref h0), (1, .int (nI d9))]) hx hb d_O_cleans_92 hl (k := 2) rfl (nI_1 j) (by decide) rfl (fun ls hl => ?_)
          refine lv_goto (tgt := 2) hx hb d_O_cleans_95 (by decide) ?_
          exact ih (j + 1) hlt (by omega) fr2_22 fl2_23 (by rw [← clr_drop (nd := (fun _ => false)) (by rfl)]; exact hu_24_1) (by rw [← clr_drop (nd := (fun _ => false)) (by rfl)]; exact hu_24_0) _ _ (hP.sub (ws' := [(h0, .inr (7, [.int i_thrown, .int i_down, .int i_lasts, v_buffer, .int i_size, .int i_documents, .ref hgo, .ref hfi, .ref hma, .ref hln, v_authors, v_sums, .ref hrow, v_made, .int i_madeSize, v_base, .int i_baseSize, v_text, .int i_textSize, .int i_textSteps, v_other, .int i_otherSize, v_piece, .int i_pieceSize, .int i_at, .int i_end, .int i_value])), (hrow, .inl (cB, 16384, .inl (fr2_22))), (hln, .inl (cL, 512, .inl (fl2_23))), (hfi, .inl (cI, 8, .inl (ff))), (hma, .inl (cI, 8, .inl (fm))), (hgo, .inl (cZ, 8, .inl (fg)))]) [3, 4, 5, 0, 1, 2] rfl) (hD.sub (ws' := [(h0, .inr (7, [.int i_thrown, .int i_down, .int i_lasts, v_buffer, .int i_size, .int i_documents, .ref hgo, .ref hfi, .ref hma, .ref hln, v_authors, v_sums, .ref hrow, v_made, .int i_madeSize, v_base, .int i_baseSize, v_text, .int i_textSize, .int i_textSteps, v_other, .int i_otherSize, v_piece, .int i_pieceSize, .int i_at, .int i_end, .int i_value])), (hrow, .inl (cB, 16384, .inl (fr2_22))), (hln, .inl (cL, 512, .inl (fl2_23))), (hfi, .inl (cI, 8, .inl (ff))), (hma, .inl (cI, 8, .inl (fm))), (hgo, .inl (cZ, 8, .inl (fg)))]) [3, 4, 5, 0, 1, 2] (by decide) rfl) hS ls (lv_sub hl [0, 3, 4] rfl)
set_option maxHeartbeats 4000000 in
set_option maxRecDepth 100000 in
theorem o_cleans_G (l : Launch) (dC : Nat → ClassId) (dI : Nat → Nat → Nat) (sz : Nat) (h0 : Nat) (i_thrown : Int32) (i_down : Int32) (i_lasts : Int32) (v_buffer : Value) (i_size : Int32) (i_documents : Int32) (v_authors : Value) (v_sums : Value) (v_made : Value) (i_madeSize : Int32) (v_base : Value) (i_baseSize : Int32) (v_text : Value) (i_textSize : Int32) (i_textSteps : Int32) (v_other : Value) (i_otherSize : Int32) (v_piece : Value) (i_pieceSize : Int32) (i_at : Int32) (i_end : Int32) (i_value : Int32) (hrow : Nat) (cB : ClassId) (fr : Nat → Int32) (hln : Nat) (cL : ClassId) (fl : Nat → Int32) (pq : Nat → Option (List Int32)) (hfi : Nat) (cI : ClassId) (ff : Nat → Int32) (hma : Nat) (fm : Nat → Int32) (hgo : Nat) (cZ : ClassId) (fg : Nat → Int32) (d9 : Nat) (hfl : ∀ j, j < 512 → fl j = vI (lnq pq j)) (hrw : rowOk pq fr) (hd9 : d9 < 8) (hgn : ¬ fg d9 = 0) : Met l y_O_cleans k_O_cleans ({ frames := 2, cells := 0, slots := 0, locals := 47 } : Room) (va_Pc [.ref h0, .int (nI d9)] (pc_E (dC, dI) [(h0, .inr (7, [.int i_thrown, .int i_down, .int i_lasts, v_buffer, .int i_size, .int i_documents, .ref hgo, .ref hfi, .ref hma, .ref hln, v_authors, v_sums, .ref hrow, v_made, .int i_madeSize, v_base, .int i_baseSize, v_text, .int i_textSize, .int i_textSteps, v_other, .int i_otherSize, v_piece, .int i_pieceSize, .int i_at, .int i_end, .int i_value])), (hrow, .inl (cB, 16384, .inl (fr))), (hln, .inl (cL, 512, .inl (fl))), (hfi, .inl (cI, 8, .inl (ff))), (hma, .inl (cI, 8, .inl (fm))), (hgo, .inl (cZ, 8, .inl (fg)))] [(cB, .byte), (cL, .short), (cI, .int), (cZ, .boolean)] sz)) (va_Qv (fun (_ : Unit) => True) (fun (_ : Unit) t => ∃ (fr2 : Nat → Int32) (fl2 : Nat → Int32), (rowOk (clr pq d9 (fun _ => false) 64) fr2 ∧ ∀ j, j < 512 → fl2 j = vI (lnq (clr pq d9 (fun _ => false) 64) j)) ∧ at_E (dC, dI) (va_A [(h0, .inr (7, [.int i_thrown, .int i_down, .int i_lasts, v_buffer, .int i_size, .int i_documents, .ref hgo, .ref hfi, .ref hma, .ref hln, v_authors, v_sums, .ref hrow, v_made, .int i_madeSize, v_base, .int i_baseSize, v_text, .int i_textSize, .int i_textSteps, v_other, .int i_otherSize, v_piece, .int i_pieceSize, .int i_at, .int i_end, .int i_value])), (hrow, .inl (cB, 16384, .inl (fr))), (hln, .inl (cL, 512, .inl (fl))), (hfi, .inl (cI, 8, .inl (ff))), (hma, .inl (cI, 8, .inl (fm))), (hgo, .inl (cZ, 8, .inl (fg)))] sz) [(h0, .inr (7, [.int i_thrown, .int i_down, .int i_lasts, v_buffer, .int i_size, .int i_documents, .ref hgo, .ref hfi, .ref hma, .ref hln, v_authors, v_sums, .ref hrow, v_made, .int i_madeSize, v_base, .int i_baseSize, v_text, .int i_textSize, .int i_textSteps, v_other, .int i_otherSize, v_piece, .int i_pieceSize, .int i_at, .int i_end, .int i_value])), (hrow, .inl (cB, 16384, .inl (fr2))), (hln, .inl (cL, 512, .inl (fl2))), (hfi, .inl (cI, 8, .inl (ff))), (hma, .inl (cI, 8, .inl (fm))), (hgo, .inl (cZ, 8, .inl (fg)))] [(cB, .byte), (cL, .short), (cI, .int), (cZ, .boolean)] t) (va_A [(h0, .inr (7, [.int i_thrown, .int i_down, .int i_lasts, v_buffer, .int i_size, .int i_documents, .ref hgo, .ref hfi, .ref hma, .ref hln, v_authors, v_sums, .ref hrow, v_made, .int i_madeSize, v_base, .int i_baseSize, v_text, .int i_textSize, .int i_textSteps, v_other, .int i_otherSize, v_piece, .int i_pieceSize, .int i_at, .int i_end, .int i_value])), (hrow, .inl (cB, 16384, .inl (fr))), (hln, .inl (cL, 512, .inl (fl))), (hfi, .inl (cI, 8, .inl (ff))), (hma, .inl (cI, 8, .inl (fm))), (hgo, .inl (cZ, 8, .inl (fg)))] sz)) 0 0 (va_A [(h0, .inr (7, [.int i_thrown, .int i_down, .int i_lasts, v_buffer, .int i_size, .int i_documents, .ref hgo, .ref hfi, .ref hma, .ref hln, v_authors, v_sums, .ref hrow, v_made, .int i_madeSize, v_base, .int i_baseSize, v_text, .int i_textSize, .int i_textSteps, v_other, .int i_otherSize, v_piece, .int i_pieceSize, .int i_at, .int i_end, .int i_value])), (hrow, .inl (cB, 16384, .inl (fr))), (hln, .inl (cL, 512, .inl (fl))), (hfi, .inl (cI, 8, .inl (ff))), (hma, .inl (cI, 8, .inl (fm))), (hgo, .inl (cZ, 8, .inl (fg)))] sz) := by
  refine Met.ofW (cc := prog_9_method_15_code) (maxL := 5) (ret := none) (by decide) rfl ?_
  intro p e s m args below meth c s₁ B hml hv
  obtain ⟨rfl, hsz, hP, hK, hD0, hN⟩ := hv
  have hx := B.exec
  have hb := B.bytes
  have hr := B.returns
  have hts := atoms_spec (ws := k_O_cleans) B.pre
  have hw0 : ∀ w ∈ w0, w.before _ s = true := fun w h => hts w (List.mem_cons_of_mem _ h)
  have hown : s.vm.findClass R_O = some m.cls := findClass_of_methodNamed B.named
  have hlocks := B.notSynchronized
  subst hsz
  have hD := hD0.self (sz := s.heap.size)
  generalize hAe : va_A [(h0, .inr (7, [.int i_thrown, .int i_down, .int i_lasts, v_buffer, .int i_size, .int i_documents, .ref hgo, .ref hfi, .ref hma, .ref hln, v_authors, v_sums, .ref hrow, v_made, .int i_madeSize, v_base, .int i_baseSize, v_text, .int i_textSize, .int i_textSteps, v_other, .int i_otherSize, v_piece, .int i_pieceSize, .int i_at, .int i_end, .int i_value])), (hrow, .inl (cB, 16384, .inl (fr))), (hln, .inl (cL, 512, .inl (fl))), (hfi, .inl (cI, 8, .inl (ff))), (hma, .inl (cI, 8, .inl (fm))), (hgo, .inl (cZ, 8, .inl (fg)))] s.heap.size = A at hD ⊢
  have hA : ∀ q : Nat, s.heap.size ≤ q → A q := fun q h => by rw [← hAe]; exact Or.inr h
  have hS : va_S A s.heap s.heap [] := va_S.rf
  have hP : va_P (dC, dI) vwCl [(h0, .inr (7, [.int i_thrown, .int i_down, .int i_lasts, v_buffer, .int i_size, .int i_documents, .ref hgo, .ref hfi, .ref hma, .ref hln, v_authors, v_sums, .ref hrow, v_made, .int i_madeSize, v_base, .int i_baseSize, v_text, .int i_textSize, .int i_textSteps, v_other, .int i_otherSize, v_piece, .int i_pieceSize, .int i_at, .int i_end, .int i_value])), (hrow, .inl (cB, 16384, .inl (fr))), (hln, .inl (cL, 512, .inl (fl))), (hfi, .inl (cI, 8, .inl (ff))), (hma, .inl (cI, 8, .inl (fm))), (hgo, .inl (cZ, 8, .inl (fg)))] s.heap := hP
  have hl := lv_entry ([.ref h0, .int (nI d9)]) (n := 5) (Nat.le_of_ble_eq_true rfl)
  rw [lg_entry_eq]
  generalize (lg_sl ([.ref h0, .int (nI d9)]) ++ List.replicate (5 - (lg_sl ([.ref h0, .int (nI d9)])).length) Slot.unset).toArray = ls at hl ⊢
  have hl : lv_has ls 5 [(0, .ref h0), (1, .int (nI d9))] := hl
  refine lv_iconst (v := 0) hx hb d_O_cleans_0 (by decide) ?_
  refine lv_istore_n (lv' := [(2, .int 0), (0, .ref h0), (1, .int (nI d9))]) hx hb d_O_cleans_1 rfl hl (by decide) rfl (fun ls hl => ?_)
  refine lo_cln_G h0 i_thrown i_down i_lasts v_buffer i_size i_documents v_authors v_sums v_made i_madeSize v_base i_baseSize v_text i_textSize i_textSteps v_other i_otherSize v_piece i_pieceSize i_at i_end i_value hrow cB hln cL pq hfi cI ff hma fm hgo cZ fg d9 hd9 hgn hx hb hml hown hw0 hN hK hA (fun fr2 fl2 g0 g1 H locs hP hD hS ls hl => ?_) 65 0 (by omega) (by omega) fr fl (by rw [clr_0]; exact hfl) (by rw [clr_0]; exact hrw) _ _ hP hD hS ls (lv_sub hl [0, 1, 2] rfl)
  have hP9 := hP.sub (ws' := [(h0, .inr (7, [.int i_thrown, .int i_down, .int i_lasts, v_buffer, .int i_size, .int i_documents, .ref hgo, .ref hfi, .ref hma, .ref hln, v_authors, v_sums, .ref hrow, v_made, .int i_madeSize, v_base, .int i_baseSize, v_text, .int i_textSize, .int i_textSteps, v_other, .int i_otherSize, v_piece, .int i_pieceSize, .int i_at, .int i_end, .int i_value])), (hrow, .inl (cB, 16384, .inl (fr2))), (hln, .inl (cL, 512, .inl (fl2))), (hfi, .inl (cI, 8, .inl (ff))), (hma, .inl (cI, 8, .inl (fm))), (hgo, .inl (cZ, 8, .inl (fg)))]) [0, 1, 2, 3, 4, 5] rfl
  have hD9 := hD.sub (ws' := [(h0, .inr (7, [.int i_thrown, .int i_down, .int i_lasts, v_buffer, .int i_size, .int i_documents, .ref hgo, .ref hfi, .ref hma, .ref hln, v_authors, v_sums, .ref hrow, v_made, .int i_madeSize, v_base, .int i_baseSize, v_text, .int i_textSize, .int i_textSteps, v_other, .int i_otherSize, v_piece, .int i_pieceSize, .int i_at, .int i_end, .int i_value])), (hrow, .inl (cB, 16384, .inl (fr2))), (hln, .inl (cL, 512, .inl (fl2))), (hfi, .inl (cI, 8, .inl (ff))), (hma, .inl (cI, 8, .inl (fm))), (hgo, .inl (cZ, 8, .inl (fg)))]) [0, 1, 2, 3, 4, 5] (by decide) rfl
  have hK9 := hK.sub (tys' := [(cB, .byte), (cL, .short), (cI, .int), (cZ, .boolean)]) [0, 1, 2, 3] rfl
  exact W.vret hx hb hr (fun t ht hW => ⟨⟨(), rfl, trivial, fr2, fl2, ⟨g1, g0⟩, by rw [ht]; exact hP9, va_K.moved hW.alike hK9, hD9⟩, hS.F ht⟩) hS.2.2 d_O_cleans_98
end
section
abbrev MY : Type := (Nat) × (Nat) × (Nat) × (Nat) × (Nat) × (Nat) × (Nat) × (Nat) × (Nat) × (Nat) × (Nat) × (Nat) × (Nat) × (Int32) × (Int32) × (Int32) × (Int32) × (Int32) × (Int32) × (Int32) × (Int32) × (Int32) × (Int32) × (Int32) × (Int32) × (Int32) × (Int32) × (Nat → Int32) × (Nat → Int32) × (Nat → Int32) × (Nat → Int32) × (Nat → Int32) × (Nat → Int32) × (Nat → Int32) × (Nat → Int32) × (Nat → Int32) × (Nat → Int32) × (Nat → Int32) × (Nat → Int32) × (Nat → Int32)
abbrev MY.hbu (x : MY) : Nat := x.1
abbrev MY.hgo (x : MY) : Nat := x.2.1
abbrev MY.hfi (x : MY) : Nat := x.2.2.1
abbrev MY.hma (x : MY) : Nat := x.2.2.2.1
abbrev MY.hln (x : MY) : Nat := x.2.2.2.2.1
abbrev MY.hau (x : MY) : Nat := x.2.2.2.2.2.1
abbrev MY.hsu (x : MY) : Nat := x.2.2.2.2.2.2.1
abbrev MY.hrow (x : MY) : Nat := x.2.2.2.2.2.2.2.1
abbrev MY.hmade (x : MY) : Nat := x.2.2.2.2.2.2.2.2.1
abbrev MY.hbase (x : MY) : Nat := x.2.2.2.2.2.2.2.2.2.1
abbrev MY.htx9 (x : MY) : Nat := x.2.2.2.2.2.2.2.2.2.2.1
abbrev MY.hot (x : MY) : Nat := x.2.2.2.2.2.2.2.2.2.2.2.1
abbrev MY.hpc (x : MY) : Nat := x.2.2.2.2.2.2.2.2.2.2.2.2.1
abbrev MY.z_thrown (x : MY) : Int32 := x.2.2.2.2.2.2.2.2.2.2.2.2.2.1
abbrev MY.z_down (x : MY) : Int32 := x.2.2.2.2.2.2.2.2.2.2.2.2.2.2.1
abbrev MY.z_lasts (x : MY) : Int32 := x.2.2.2.2.2.2.2.2.2.2.2.2.2.2.2.1
abbrev MY.z_size (x : MY) : Int32 := x.2.2.2.2.2.2.2.2.2.2.2.2.2.2.2.2.1
abbrev MY.z_documents (x : MY) : Int32 := x.2.2.2.2.2.2.2.2.2.2.2.2.2.2.2.2.2.1
abbrev MY.z_madeSize (x : MY) : Int32 := x.2.2.2.2.2.2.2.2.2.2.2.2.2.2.2.2.2.2.1
abbrev MY.z_baseSize (x : MY) : Int32 := x.2.2.2.2.2.2.2.2.2.2.2.2.2.2.2.2.2.2.2.1
abbrev MY.z_textSize (x : MY) : Int32 := x.2.2.2.2.2.2.2.2.2.2.2.2.2.2.2.2.2.2.2.2.1
abbrev MY.z_textSteps (x : MY) : Int32 := x.2.2.2.2.2.2.2.2.2.2.2.2.2.2.2.2.2.2.2.2.2.1
abbrev MY.z_otherSize (x : MY) : Int32 := x.2.2.2.2.2.2.2.2.2.2.2.2.2.2.2.2.2.2.2.2.2.2.1
abbrev MY.z_pieceSize (x : MY) : Int32 := x.2.2.2.2.2.2.2.2.2.2.2.2.2.2.2.2.2.2.2.2.2.2.2.1
abbrev MY.z_at (x : MY) : Int32 := x.2.2.2.2.2.2.2.2.2.2.2.2.2.2.2.2.2.2.2.2.2.2.2.2.1
abbrev MY.z_end (x : MY) : Int32 := x.2.2.2.2.2.2.2.2.2.2.2.2.2.2.2.2.2.2.2.2.2.2.2.2.2.1
abbrev MY.z_value (x : MY) : Int32 := x.2.2.2.2.2.2.2.2.2.2.2.2.2.2.2.2.2.2.2.2.2.2.2.2.2.2.1
abbrev MY.fbu (x : MY) : Nat → Int32 := x.2.2.2.2.2.2.2.2.2.2.2.2.2.2.2.2.2.2.2.2.2.2.2.2.2.2.2.1
abbrev MY.fg (x : MY) : Nat → Int32 := x.2.2.2.2.2.2.2.2.2.2.2.2.2.2.2.2.2.2.2.2.2.2.2.2.2.2.2.2.1
abbrev MY.ff (x : MY) : Nat → Int32 := x.2.2.2.2.2.2.2.2.2.2.2.2.2.2.2.2.2.2.2.2.2.2.2.2.2.2.2.2.2.1
abbrev MY.fm (x : MY) : Nat → Int32 := x.2.2.2.2.2.2.2.2.2.2.2.2.2.2.2.2.2.2.2.2.2.2.2.2.2.2.2.2.2.2.1
abbrev MY.fl (x : MY) : Nat → Int32 := x.2.2.2.2.2.2.2.2.2.2.2.2.2.2.2.2.2.2.2.2.2.2.2.2.2.2.2.2.2.2.2.1
abbrev MY.fa (x : MY) : Nat → Int32 := x.2.2.2.2.2.2.2.2.2.2.2.2.2.2.2.2.2.2.2.2.2.2.2.2.2.2.2.2.2.2.2.2.1
abbrev MY.fs (x : MY) : Nat → Int32 := x.2.2.2.2.2.2.2.2.2.2.2.2.2.2.2.2.2.2.2.2.2.2.2.2.2.2.2.2.2.2.2.2.2.1
abbrev MY.fr (x : MY) : Nat → Int32 := x.2.2.2.2.2.2.2.2.2.2.2.2.2.2.2.2.2.2.2.2.2.2.2.2.2.2.2.2.2.2.2.2.2.2.1
abbrev MY.f (x : MY) : Nat → Int32 := x.2.2.2.2.2.2.2.2.2.2.2.2.2.2.2.2.2.2.2.2.2.2.2.2.2.2.2.2.2.2.2.2.2.2.2.1
abbrev MY.fb (x : MY) : Nat → Int32 := x.2.2.2.2.2.2.2.2.2.2.2.2.2.2.2.2.2.2.2.2.2.2.2.2.2.2.2.2.2.2.2.2.2.2.2.2.1
abbrev MY.ft (x : MY) : Nat → Int32 := x.2.2.2.2.2.2.2.2.2.2.2.2.2.2.2.2.2.2.2.2.2.2.2.2.2.2.2.2.2.2.2.2.2.2.2.2.2.1
abbrev MY.fo (x : MY) : Nat → Int32 := x.2.2.2.2.2.2.2.2.2.2.2.2.2.2.2.2.2.2.2.2.2.2.2.2.2.2.2.2.2.2.2.2.2.2.2.2.2.2.1
abbrev MY.fp (x : MY) : Nat → Int32 := x.2.2.2.2.2.2.2.2.2.2.2.2.2.2.2.2.2.2.2.2.2.2.2.2.2.2.2.2.2.2.2.2.2.2.2.2.2.2.2

def mW (h0 : Nat) (cB cI cL cZ : ClassId) (y : MY) : va_W := [(h0, .inr (7, [.int y.z_thrown, .int y.z_down, .int y.z_lasts, .ref y.hbu, .int y.z_size, .int y.z_documents, .ref y.hgo, .ref y.hfi, .ref y.hma, .ref y.hln, .ref y.hau, .ref y.hsu, .ref y.hrow, .ref y.hmade, .int y.z_madeSize, .ref y.hbase, .int y.z_baseSize, .ref y.htx9, .int y.z_textSize, .int y.z_textSteps, .ref y.hot, .int y.z_otherSize, .ref y.hpc, .int y.z_pieceSize, .int y.z_at, .int y.z_end, .int y.z_value])), (y.hbu, .inl (cB, 256, .inl (y.fbu))), (y.hgo, .inl (cZ, 8, .inl (y.fg))), (y.hfi, .inl (cI, 8, .inl (y.ff))), (y.hma, .inl (cI, 8, .inl (y.fm))), (y.hln, .inl (cL, 512, .inl (y.fl))), (y.hau, .inl (cI, 512, .inl (y.fa))), (y.hsu, .inl (cI, 512, .inl (y.fs))), (y.hrow, .inl (cB, 16384, .inl (y.fr))), (y.hmade, .inl (cB, 256, .inl (y.f))), (y.hbase, .inl (cB, 256, .inl (y.fb))), (y.htx9, .inl (cB, 256, .inl (y.ft))), (y.hot, .inl (cB, 256, .inl (y.fo))), (y.hpc, .inl (cB, 600, .inl (y.fp)))]
abbrev mT (cB cI cL cZ : ClassId) : List (ClassId × FieldType) := [(cB, .byte), (cI, .int), (cL, .short), (cZ, .boolean)]
def pqS (ds : Nat → Option Dm) : Nat → Option (List Int32) := fun q => match ds (q / 64) with
  | none => none
  | some d => dmP d (q % 64)
def mOk (σ : Sg) (y : MY) : Prop := (y.z_down = bI σ.down) ∧ (y.z_lasts = vI σ.go) ∧ (y.z_size = nI σ.buf.length) ∧ (tx σ.buf σ.buf.length y.fbu) ∧ (y.z_documents = nI σ.nd) ∧ (∀ i, i < 8 → ((∃ d, σ.ds i = some d) → y.fg i = 0) ∧ (i < σ.nd → σ.ds i = none → ¬ y.fg i = 0) ∧ (σ.nd ≤ i → y.fg i = 0)) ∧ (∀ i, i < 8 → (∀ d, σ.ds i = some d → y.ff i = nI d.first ∧ y.fm i = nI d.count) ∧ (σ.nd ≤ i → y.ff i = 0 ∧ y.fm i = 0)) ∧ (∀ j, j < 512 → y.fl j = vI (lnq (pqS σ.ds) j)) ∧ (rowOk (pqS σ.ds) y.fr) ∧ (∀ i j d r, i < 8 → j < 64 → σ.ds i = some d → d.rv j = some r → y.fa (64 * i + j) = r.au ∧ y.fs (64 * i + j) = r.sm) ∧ ((y.z_textSize = nI σ.fet.length ∧ tx σ.fet σ.fet.length y.ft) ∨ (y.z_textSize = (-1) ∧ σ.fet = [])) ∧ (y.z_textSteps = σ.stp)
theorem mOk.dw {σ : Sg} {y : MY} (h : mOk σ y) : y.z_down = bI σ.down := h.1
theorem mOk.la {σ : Sg} {y : MY} (h : mOk σ y) : y.z_lasts = vI σ.go := h.2.1
theorem mOk.sz {σ : Sg} {y : MY} (h : mOk σ y) : y.z_size = nI σ.buf.length := h.2.2.1
theorem mOk.bf {σ : Sg} {y : MY} (h : mOk σ y) : tx σ.buf σ.buf.length y.fbu := h.2.2.2.1
theorem mOk.nd {σ : Sg} {y : MY} (h : mOk σ y) : y.z_documents = nI σ.nd := h.2.2.2.2.1
theorem mOk.gn {σ : Sg} {y : MY} (h : mOk σ y) : ∀ i, i < 8 → ((∃ d, σ.ds i = some d) → y.fg i = 0) ∧ (i < σ.nd → σ.ds i = none → ¬ y.fg i = 0) ∧ (σ.nd ≤ i → y.fg i = 0) := h.2.2.2.2.2.1
theorem mOk.fm {σ : Sg} {y : MY} (h : mOk σ y) : ∀ i, i < 8 → (∀ d, σ.ds i = some d → y.ff i = nI d.first ∧ y.fm i = nI d.count) ∧ (σ.nd ≤ i → y.ff i = 0 ∧ y.fm i = 0) := h.2.2.2.2.2.2.1
theorem mOk.ln {σ : Sg} {y : MY} (h : mOk σ y) : ∀ j, j < 512 → y.fl j = vI (lnq (pqS σ.ds) j) := h.2.2.2.2.2.2.2.1
theorem mOk.rw {σ : Sg} {y : MY} (h : mOk σ y) : rowOk (pqS σ.ds) y.fr := h.2.2.2.2.2.2.2.2.1
theorem mOk.au {σ : Sg} {y : MY} (h : mOk σ y) : ∀ i j d r, i < 8 → j < 64 → σ.ds i = some d → d.rv j = some r → y.fa (64 * i + j) = r.au ∧ y.fs (64 * i + j) = r.sm := h.2.2.2.2.2.2.2.2.2.1
theorem mOk.tq {σ : Sg} {y : MY} (h : mOk σ y) : (y.z_textSize = nI σ.fet.length ∧ tx σ.fet σ.fet.length y.ft) ∨ (y.z_textSize = (-1) ∧ σ.fet = []) := h.2.2.2.2.2.2.2.2.2.2.1
theorem mOk.st {σ : Sg} {y : MY} (h : mOk σ y) : y.z_textSteps = σ.stp := h.2.2.2.2.2.2.2.2.2.2.2
theorem mOk.mk {σ : Sg} {y : MY} (h0 : y.z_down = bI σ.down) (h1 : y.z_lasts = vI σ.go) (h2 : y.z_size = nI σ.buf.length) (h3 : tx σ.buf σ.buf.length y.fbu) (h4 : y.z_documents = nI σ.nd) (h5 : ∀ i, i < 8 → ((∃ d, σ.ds i = some d) → y.fg i = 0) ∧ (i < σ.nd → σ.ds i = none → ¬ y.fg i = 0) ∧ (σ.nd ≤ i → y.fg i = 0)) (h6 : ∀ i, i < 8 → (∀ d, σ.ds i = some d → y.ff i = nI d.first ∧ y.fm i = nI d.count) ∧ (σ.nd ≤ i → y.ff i = 0 ∧ y.fm i = 0)) (h7 : ∀ j, j < 512 → y.fl j = vI (lnq (pqS σ.ds) j)) (h8 : rowOk (pqS σ.ds) y.fr) (h9 : ∀ i j d r, i < 8 → j < 64 → σ.ds i = some d → d.rv j = some r → y.fa (64 * i + j) = r.au ∧ y.fs (64 * i + j) = r.sm) (h10 : (y.z_textSize = nI σ.fet.length ∧ tx σ.fet σ.fet.length y.ft) ∨ (y.z_textSize = (-1) ∧ σ.fet = [])) (h11 : y.z_textSteps = σ.stp) : mOk σ y := ⟨h0, h1, h2, h3, h4, h5, h6, h7, h8, h9, h10, h11⟩
theorem spend_none {σ : Sg} {n : Nat} (h : spend σ n = none) : ∃ w, σ.go = some w ∧ w < n := by
  unfold spend at h
  split at h
  · cases h
  · next w e =>
    split at h
    · next q => exact ⟨w, e, q⟩
    · cases h
theorem spend_some {σ τ : Sg} {n : Nat} (h : spend σ n = some τ) : τ = sgG σ (σ.go.map (· - n)) ∧ ∀ w, σ.go = some w → n ≤ w := by
  unfold spend at h
  split at h
  · next e =>
    cases h
    refine ⟨?_, fun w q => by rw [e] at q; cases q⟩
    rw [e]
    obtain ⟨_, _, _⟩ := σ
    cases e
    rfl
  · next w e =>
    split at h
    · cases h
    · next q => cases h; exact ⟨by rw [e]; rfl, fun w' q' => by rw [e] at q'; cases q'; omega⟩
theorem en_sz {L : List Int32} {n : Int32} (h1 : ¬ n < 0) (h2 : n ≤ nI L.length) (hl : L.length ≤ 256) : n = nI (L.take n.toNatClampNeg).length := by
  obtain ⟨j, hj, rfl⟩ := nI_of h1
  rw [nI_clamp hj, List.length_take]
  have := (nI_leI hj (by omega)).mp h2
  rw [Nat.min_eq_left this]
theorem en_bf {L : List Int32} {n : Int32} {f : Nat → Int32} (h1 : ¬ n < 0) (h2 : n ≤ nI L.length) (hl : L.length ≤ 256) (h : tx L L.length f) : tx (L.take n.toNatClampNeg) (L.take n.toNatClampNeg).length f := by
  obtain ⟨j, hj, rfl⟩ := nI_of h1
  have h3 := (nI_leI hj (by omega)).mp h2
  rw [nI_clamp hj]
  have := tx_take h h3
  rw [this.1]
  exact this
theorem ou_n {F : List Int32} {ts i : Int32} {f : Nat → Int32} (h : (ts = nI F.length ∧ tx F F.length f) ∨ (ts = (-1) ∧ F = [])) (c : i < 0 ∨ ts ≤ i) : (-1 : Int32) = bAt F i := by
  rw [bAt, if_pos]
  rcases c with c | c
  · exact Or.inl c
  · rcases h with ⟨h, -⟩ | ⟨h, rfl⟩
    · rw [h] at c; exact Or.inr c
    · rw [h] at c
      by_cases z : i < 0
      · exact Or.inl z
      · exact Or.inr (Int32.not_lt.mp z)
theorem ou_lt {F : List Int32} {ts i : Int32} {f : Nat → Int32} (h : (ts = nI F.length ∧ tx F F.length f) ∨ (ts = (-1) ∧ F = [])) (h1 : ¬ i < 0) (h2 : ¬ ts ≤ i) : ts = nI F.length ∧ tx F F.length f := by
  rcases h with h | ⟨h, -⟩
  · exact h
  · rw [h] at h2
    exact absurd (x_m1 h1 h2) id
theorem ou_in {F : List Int32} {ts i : Int32} {f : Nat → Int32} (h : (ts = nI F.length ∧ tx F F.length f) ∨ (ts = (-1) ∧ F = [])) (hl : F.length ≤ 256) (h1 : ¬ i < 0) (h2 : ¬ ts ≤ i) : vp_in i 256 := by
  have := ou_lt h h1 h2
  rw [this.1] at h2
  exact x_inK hl (by decide) h1 h2
theorem ou_s {F : List Int32} {ts i : Int32} {f : Nat → Int32} (h : (ts = nI F.length ∧ tx F F.length f) ∨ (ts = (-1) ∧ F = [])) (h1 : ¬ i < 0) (h2 : ¬ ts ≤ i) : f i.toNatClampNeg &&& 255 = bAt F i := by
  have h3 := ou_lt h h1 h2
  rw [h3.1] at h2
  rw [bAt, if_neg (fun q => q.elim h1 h2), tx_at h3.2 (x_ltK h1 h2)]
theorem cu_la {n : Int32} (h : 0 ≤ n) : n = vI (some n.toNatClampNeg) := by
  obtain ⟨j, hj, rfl⟩ := nI_of (Int32.not_lt.mpr h)
  rw [nI_clamp hj]
  rfl
theorem pqS_at {ds : Nat → Option Dm} {i j : Nat} (hj : j < 64) : pqS ds (64 * i + j) = match ds i with
  | none => none
  | some d => dmP d j := by
  unfold pqS
  rw [show (64 * i + j) / 64 = i by omega, show (64 * i + j) % 64 = j by omega]
theorem pqS_s {ds : Nat → Option Dm} {i j : Nat} {d : Dm} (hj : j < 64) (h : ds i = some d) : pqS ds (64 * i + j) = dmP d j := by
  rw [pqS_at hj, h]
theorem pqS_n {ds : Nat → Option Dm} {i j : Nat} (hj : j < 64) (h : ds i = none) : pqS ds (64 * i + j) = none := by
  rw [pqS_at hj, h]
theorem agJ_congr {p q : Nat → Option (List Int32)} {r : Nat} (hr : r < 64) (h : ∀ j, j < 64 → p j = q j) : ∀ k, k ≤ 6 → agJ p r k = agJ q r k
  | 0, _ => by
    show stp6 p (some []) 0 = stp6 q (some []) 0
    unfold stp6
    rw [h 0 (by omega)]
  | k + 1, hk => by
    have hb := bt6_iff r k hr (by omega)
    have e : ∀ T, stp6 p T (hi6 (k + 1) r) = stp6 q T (hi6 (k + 1) r) := fun T => by
      unfold stp6
      rw [h (hi6 (k + 1) r) (by omega)]
    rw [agJ, agJ, agJ_congr hr h k (by omega), e]
theorem agn_congr {p q : Nat → Option (List Int32)} {r : Nat} (hr : r < 64) (h : ∀ j, j < 64 → p j = q j) : agn p r = agn q r := agJ_congr hr h 6 (Nat.le_refl _)
theorem agn_pq {ds : Nat → Option Dm} {i r : Nat} {d : Dm} (hr : r < 64) (h : ds i = some d) : agn (pqF (pqS ds) i) r = agn (dmP d) r := agn_congr hr (fun _ hj => pqS_s hj h)
theorem cbk_end {pc : Nat → Option (List Int32)} {n : Nat} (h : ∀ j, n ≤ j → pc j = none) : ∀ k, cbk pc (n + k) = cbk pc n
  | 0 => rfl
  | k + 1 => by rw [← Nat.add_assoc, cbk_n (h _ (by omega)), cbk_end h k]
theorem frb_64 {ds : Nat → Option Dm} {i : Nat} : ∀ k, k ≤ 64 → frb (lnq (pqS ds)) (64 * i + k) = frb (lnq (pqS ds)) (64 * i) + cbk (fun j => pqS ds (64 * i + j)) k
  | 0, _ => rfl
  | k + 1, hk => by
    rw [← Nat.add_assoc, frb, frb_64 k (by omega), cbk, Nat.add_assoc]
    congr 2
    unfold lnq
    cases pqS ds (64 * i + k) <;> rfl
theorem cbk_congr {p q : Nat → Option (List Int32)} : ∀ {n : Nat}, (∀ j, j < n → p j = q j) → cbk p n = cbk q n
  | 0, _ => rfl
  | n + 1, h => by rw [cbk, cbk, cbk_congr (fun j hj => h j (by omega)), h n (by omega)]
theorem frb_us {ds : Nat → Option Dm} (h : ∀ i d, ds i = some d → dmOk d) : ∀ i, frb (lnq (pqS ds)) (64 * i) = usd ds i
  | 0 => rfl
  | i + 1 => by
    rw [show 64 * (i + 1) = 64 * i + 64 by omega, frb_64 64 (Nat.le_refl _), frb_us h i, usd]
    congr 1
    cases e : ds i with
    | none =>
      rw [cbk_congr (q := fun _ => none) (fun j hj => pqS_n hj e)]
      have := cbk_end (pc := fun _ => none) (n := 0) (fun _ _ => rfl) 64
      rw [Nat.zero_add] at this
      exact this
    | some d =>
      obtain ⟨h1, h2, h3, h4⟩ := h i d e
      rw [cbk_congr (q := dmP d) (fun j hj => pqS_s hj e)]
      have := cbk_end (pc := dmP d) (n := d.count) (fun j hj => by
        unfold dmP
        cases q : d.rv j with
        | none => rfl
        | some r => have := (h4 j r q).1; omega) (64 - d.count)
      rw [show d.count + (64 - d.count) = 64 by omega] at this
      exact this
theorem fr_us {σ : Sg} (hs : sOk σ) : 512 - nI (frb (lnq (pqS σ.ds)) 512) = nI (512 - usd σ.ds 8) := by
  have h := frb_us (fun i d e => (hs.ds i d e).2) 8
  rw [show 512 = 64 * 8 from rfl, h]
  exact pk_sub hs.us
theorem mk_none {σ : Sg} (hs : sOk σ) : ∀ i, σ.nd ≤ i → σ.ds i = none := by
  intro i hi
  cases e : σ.ds i with
  | none => rfl
  | some d => have := (hs.ds i d e).1; omega
theorem mk_gn {σ : Sg} {fg : Nat → Int32} (h : ∀ i, i < 8 → ((∃ d, σ.ds i = some d) → fg i = 0) ∧ (i < σ.nd → σ.ds i = none → ¬ fg i = 0) ∧ (σ.nd ≤ i → fg i = 0)) : ∀ i, i < 8 → ((∃ d, va_up σ.ds σ.nd (some ⟨0, 0, fun _ => none⟩) i = some d) → fg i = 0) ∧ (i < σ.nd + 1 → va_up σ.ds σ.nd (some ⟨0, 0, fun _ => none⟩) i = none → ¬ fg i = 0) ∧ (σ.nd + 1 ≤ i → fg i = 0) := by
  intro i hi
  obtain ⟨h1, h2, h3⟩ := h i hi
  refine ⟨fun ⟨d, hd⟩ => ?_, fun q1 q2 => ?_, fun q => h3 (by omega)⟩
  · by_cases z : i = σ.nd
    · exact h3 (by omega)
    · rw [va_up_ne _ _ z] at hd
      exact h1 ⟨d, hd⟩
  · by_cases z : i = σ.nd
    · rw [z, va_up_self] at q2; cases q2
    · rw [va_up_ne _ _ z] at q2
      exact h2 (by omega) q2
theorem mk_fm {σ : Sg} {ff fm : Nat → Int32} (h : ∀ i, i < 8 → (∀ d, σ.ds i = some d → ff i = nI d.first ∧ fm i = nI d.count) ∧ (σ.nd ≤ i → ff i = 0 ∧ fm i = 0)) : ∀ i, i < 8 → (∀ d, va_up σ.ds σ.nd (some ⟨0, 0, fun _ => none⟩) i = some d → ff i = nI d.first ∧ fm i = nI d.count) ∧ (σ.nd + 1 ≤ i → ff i = 0 ∧ fm i = 0) := by
  intro i hi
  obtain ⟨h1, h2⟩ := h i hi
  refine ⟨fun d hd => ?_, fun q => h2 (by omega)⟩
  by_cases z : i = σ.nd
  · rw [z, va_up_self] at hd
    cases hd
    exact h2 (by omega)
  · rw [va_up_ne _ _ z] at hd
    exact h1 d hd
theorem pqS_mk {σ : Sg} (hs : sOk σ) : pqS (va_up σ.ds σ.nd (some ⟨0, 0, fun _ => none⟩)) = pqS σ.ds := by
  funext q
  unfold pqS
  by_cases z : q / 64 = σ.nd
  · rw [z, va_up_self, mk_none hs _ (Nat.le_refl _)]
    rfl
  · rw [va_up_ne _ _ z]
theorem mk_au {σ : Sg} {fa fs : Nat → Int32} (h : ∀ i j d r, i < 8 → j < 64 → σ.ds i = some d → d.rv j = some r → fa (64 * i + j) = r.au ∧ fs (64 * i + j) = r.sm) : ∀ i j d r, i < 8 → j < 64 → va_up σ.ds σ.nd (some ⟨0, 0, fun _ => none⟩) i = some d → d.rv j = some r → fa (64 * i + j) = r.au ∧ fs (64 * i + j) = r.sm := by
  intro i j d r hi hj hd hr
  by_cases z : i = σ.nd
  · rw [z, va_up_self] at hd
    cases hd
    cases hr
  · rw [va_up_ne _ _ z] at hd
    exact h i j d r hi hj hd hr
theorem ndd_iff (r f : Nat) : ∀ n, ndd r f n = true ↔ ∃ t, t < n ∧ wk (f + t) r = r
  | 0 => by
    constructor
    · intro h; cases h
    · rintro ⟨t, h, -⟩; omega
  | n + 1 => by
    rw [ndd, Bool.or_eq_true, ndd_iff r f n, decide_eq_true_eq]
    constructor
    · rintro (⟨t, h1, h2⟩ | h)
      · exact ⟨t, by omega, h2⟩
      · exact ⟨n, by omega, h⟩
    · rintro ⟨t, h1, h2⟩
      by_cases z : t = n
      · subst z; exact Or.inr h2
      · exact Or.inl ⟨t, by omega, h2⟩
theorem wk_und {j r k : Nat} (hk : k < 64) (h1 : j < r) (h2 : r ≤ k) (h : wk k j = j) : wk r j = j := by
  have H : ∀ k j : Fin 64, wk k.1 j.1 = j.1 → ∀ r : Fin 64, j.1 < r.1 → r.1 ≤ k.1 → wk r.1 j.1 = j.1 := by decide +kernel
  exact H ⟨k, hk⟩ ⟨j, by omega⟩ h ⟨r, by omega⟩ h1 h2
theorem pqS_up {ds : Nat → Option Dm} {i : Nat} {o : Option Dm} {q : Nat} : pqS (va_up ds i o) q = if q / 64 = i then (match o with | none => none | some d => dmP d (q % 64)) else pqS ds q := by
  unfold pqS
  by_cases z : q / 64 = i
  · rw [if_pos z, z, va_up_self]
  · rw [if_neg z, va_up_ne _ _ z]
theorem pqS_drop {ds : Nat → Option Dm} {i : Nat} : clr (pqS ds) i (fun _ => false) 64 = pqS (va_up ds i none) := by
  funext q
  rw [pqS_up, clr]
  by_cases z : q / 64 = i
  · rw [if_pos z, if_pos ⟨by omega, by omega, rfl⟩]
  · rw [if_neg z, if_neg (fun y => z (by omega))]
theorem pqS_trim {ds : Nat → Option Dm} {i r : Nat} {d : Dm} (h : ds i = some d) (hd : dmOk d) (hr : r < d.count) : clr (pqS ds) i (fun j => ndd j r (d.count - r)) 64 = pqS (va_up ds i (some ⟨r, d.count, cutA r d.rv 0⟩)) := by
  funext q
  rw [pqS_up, clr]
  by_cases z : q / 64 = i
  · obtain ⟨j, hj, rfl⟩ : ∃ j, j < 64 ∧ q = 64 * i + j := ⟨q % 64, by omega, by omega⟩
    rw [if_pos z, show (64 * i + j) % 64 = j by omega, show 64 * i + j - 64 * i = j by omega, pqS_s hj h]
    show _ = (cutA r d.rv 0 j).map Rv.S
    obtain ⟨h1, h2, h3, h4⟩ := hd
    unfold cutA
    by_cases a : ndd j r (d.count - r) = true
    · obtain ⟨t, ht, hw⟩ := (ndd_iff j r _).mp a
      rw [if_neg (fun y => by rw [a] at y; exact absurd y.2.2 (by decide)), if_neg (fun y => y.2.2 (wk_und (by omega) y.2.1 (by omega) hw))]
      rfl
    · have a' : ndd j r (d.count - r) = false := by simpa using a
      rw [if_pos ⟨by omega, by omega, a'⟩]
      have na : ∀ t, t < d.count - r → ¬ wk (r + t) j = j := fun t ht hw => a ((ndd_iff j r _).mpr ⟨t, ht, hw⟩)
      rcases Nat.lt_or_ge j r with y | y
      · rw [if_pos ⟨Nat.zero_le _, y, na 0 (by omega)⟩]; rfl
      · rcases Nat.lt_or_ge j d.count with x | x
        · have := na (j - r) (by omega)
          rw [show r + (j - r) = j by omega, wk_le (Nat.le_refl _)] at this
          exact absurd rfl this
        · rw [if_neg (by omega)]
          cases e : d.rv j with
          | none => rfl
          | some v => have := (h4 j v e).1; omega
  · rw [if_neg z, if_neg (fun y => z (by omega))]
theorem pqS_rv {ds : Nat → Option Dm} {i j : Nat} {d : Dm} {a b : Nat} {v : Rv} (h : ds i = some d) (hj : j < 64) : va_up (pqS ds) (64 * i + j) (some v.S) = pqS (va_up ds i (some ⟨a, b, va_up d.rv j (some v)⟩)) := by
  funext q
  rw [pqS_up]
  by_cases z : q / 64 = i
  · obtain ⟨k, hk, rfl⟩ : ∃ k, k < 64 ∧ q = 64 * i + k := ⟨q % 64, by omega, by omega⟩
    rw [if_pos z, show (64 * i + k) % 64 = k by omega]
    show _ = (va_up d.rv j (some v) k).map Rv.S
    by_cases y : k = j
    · subst y; rw [va_up_self, va_up_self]; rfl
    · rw [va_up_ne _ _ (by omega), va_up_ne _ _ y, pqS_s hk h]; rfl
  · rw [if_neg z, va_up_ne _ _ (by omega)]
theorem no_doc {σ : Sg} {fg : Nat → Int32} {a : Int32} (hn : σ.nd ≤ 8) (h : ∀ i, i < 8 → ((∃ d, σ.ds i = some d) → fg i = 0) ∧ (i < σ.nd → σ.ds i = none → ¬ fg i = 0) ∧ (σ.nd ≤ i → fg i = 0)) (hd : dGet σ.ds a = none) : a < 0 ∨ nI σ.nd ≤ a ∨ ¬ fg a.toNatClampNeg = 0 := by
  by_cases h1 : a < 0
  · exact Or.inl h1
  · by_cases h2 : nI σ.nd ≤ a
    · exact Or.inr (Or.inl h2)
    · refine Or.inr (Or.inr ?_)
      have h3 := x_ltK h1 h2
      refine (h _ (by omega)).2.1 h3 ?_
      rcases dGet_none hd with q | q | q
      · exact absurd q h1
      · obtain ⟨j, hj, rfl⟩ := nI_of h1
        rw [nI_clamp hj] at h3
        have := (nI_leI (by decide) hj).mp q
        omega
      · exact q
theorem up_gn {σ : Sg} {fg : Nat → Int32} {i : Nat} {d e : Dm} (hi : σ.ds i = some d) (h : ∀ i, i < 8 → ((∃ d, σ.ds i = some d) → fg i = 0) ∧ (i < σ.nd → σ.ds i = none → ¬ fg i = 0) ∧ (σ.nd ≤ i → fg i = 0)) : ∀ k, k < 8 → ((∃ d, va_up σ.ds i (some e) k = some d) → fg k = 0) ∧ (k < σ.nd → va_up σ.ds i (some e) k = none → ¬ fg k = 0) ∧ (σ.nd ≤ k → fg k = 0) := by
  intro k hk
  obtain ⟨h1, h2, h3⟩ := h k hk
  refine ⟨fun ⟨x, hx⟩ => ?_, fun q1 q2 => ?_, h3⟩
  · by_cases z : k = i
    · subst z; exact h1 ⟨d, hi⟩
    · rw [va_up_ne _ _ z] at hx; exact h1 ⟨x, hx⟩
  · by_cases z : k = i
    · subst z; rw [va_up_self] at q2; cases q2
    · rw [va_up_ne _ _ z] at q2; exact h2 q1 q2
theorem up_fm {σ : Sg} {ff fm ff' fm' : Nat → Int32} {i : Nat} {e : Dm} (hi : i < σ.nd) (h : ∀ i, i < 8 → (∀ d, σ.ds i = some d → ff i = nI d.first ∧ fm i = nI d.count) ∧ (σ.nd ≤ i → ff i = 0 ∧ fm i = 0)) (h1 : ∀ k, k ≠ i → ff' k = ff k ∧ fm' k = fm k) (h2 : ff' i = nI e.first ∧ fm' i = nI e.count) : ∀ k, k < 8 → (∀ d, va_up σ.ds i (some e) k = some d → ff' k = nI d.first ∧ fm' k = nI d.count) ∧ (σ.nd ≤ k → ff' k = 0 ∧ fm' k = 0) := by
  intro k hk
  obtain ⟨a1, a2⟩ := h k hk
  refine ⟨fun x hx => ?_, fun q => ?_⟩
  · by_cases z : k = i
    · subst z; rw [va_up_self] at hx; cases hx; exact h2
    · rw [va_up_ne _ _ z] at hx; rw [(h1 k z).1, (h1 k z).2]; exact a1 x hx
  · rw [(h1 k (by omega)).1, (h1 k (by omega)).2]; exact a2 q
theorem up_au {σ : Sg} {fa fs fa' fs' : Nat → Int32} {i : Nat} {e : Dm} (h : ∀ i j d r, i < 8 → j < 64 → σ.ds i = some d → d.rv j = some r → fa (64 * i + j) = r.au ∧ fs (64 * i + j) = r.sm) (h1 : ∀ k j, k ≠ i → j < 64 → fa' (64 * k + j) = fa (64 * k + j) ∧ fs' (64 * k + j) = fs (64 * k + j)) (h2 : ∀ j r, j < 64 → e.rv j = some r → fa' (64 * i + j) = r.au ∧ fs' (64 * i + j) = r.sm) : ∀ k j d r, k < 8 → j < 64 → va_up σ.ds i (some e) k = some d → d.rv j = some r → fa' (64 * k + j) = r.au ∧ fs' (64 * k + j) = r.sm := by
  intro k j d r hk hj hd hr
  by_cases z : k = i
  · subst z; rw [va_up_self] at hd; cases hd; exact h2 j r hj hr
  · rw [va_up_ne _ _ z] at hd
    rw [(h1 k j z hj).1, (h1 k j z hj).2]
    exact h k j d r hk hj hd hr
theorem dn_gn {σ : Sg} {fg : Nat → Int32} {i : Nat} (hi : i < σ.nd) (h : ∀ i, i < 8 → ((∃ d, σ.ds i = some d) → fg i = 0) ∧ (i < σ.nd → σ.ds i = none → ¬ fg i = 0) ∧ (σ.nd ≤ i → fg i = 0)) : ∀ k, k < 8 → ((∃ d, va_up σ.ds i none k = some d) → upd fg i 1 k = 0) ∧ (k < σ.nd → va_up σ.ds i none k = none → ¬ upd fg i 1 k = 0) ∧ (σ.nd ≤ k → upd fg i 1 k = 0) := by
  intro k hk
  obtain ⟨h1, h2, h3⟩ := h k hk
  by_cases z : k = i
  · subst z
    rw [va_up_self, pk_us]
    exact ⟨fun ⟨x, hx⟩ => (by cases hx), fun _ _ => (by decide), fun q => (by omega)⟩
  · rw [va_up_ne _ _ z, pk_un z]
    exact ⟨h1, h2, h3⟩
theorem dn_fm {σ : Sg} {ff fm : Nat → Int32} {i : Nat} (h : ∀ i, i < 8 → (∀ d, σ.ds i = some d → ff i = nI d.first ∧ fm i = nI d.count) ∧ (σ.nd ≤ i → ff i = 0 ∧ fm i = 0)) : ∀ k, k < 8 → (∀ d, va_up σ.ds i none k = some d → ff k = nI d.first ∧ fm k = nI d.count) ∧ (σ.nd ≤ k → ff k = 0 ∧ fm k = 0) := by
  intro k hk
  refine ⟨fun x hx => ?_, (h k hk).2⟩
  by_cases z : k = i
  · subst z; rw [va_up_self] at hx; cases hx
  · rw [va_up_ne _ _ z] at hx; exact (h k hk).1 x hx
theorem dn_au {σ : Sg} {fa fs : Nat → Int32} {i : Nat} (h : ∀ i j d r, i < 8 → j < 64 → σ.ds i = some d → d.rv j = some r → fa (64 * i + j) = r.au ∧ fs (64 * i + j) = r.sm) : ∀ k j d r, k < 8 → j < 64 → va_up σ.ds i none k = some d → d.rv j = some r → fa (64 * k + j) = r.au ∧ fs (64 * k + j) = r.sm := by
  intro k j d r hk hj hd hr
  by_cases z : k = i
  · subst z; rw [va_up_self] at hd; cases hd
  · rw [va_up_ne _ _ z] at hd
    exact h k j d r hk hj hd hr
theorem ask_r {f c : Nat} {a : Int32} (hf : f ≤ c) (hc : c ≤ 64) (h : ¬ (a < nI f ∨ nI c ≤ a)) : ∃ r, f ≤ r ∧ r < c ∧ a = nI r := by
  have h1 : ¬ nI c ≤ a := fun z => h (Or.inr z)
  have h2 : ¬ a < nI f := fun z => h (Or.inl z)
  by_cases z : a < 0
  · exact absurd (Int32.lt_of_lt_of_le z (Int32.not_lt.mp (nI_pos (by omega)))) h2
  · obtain ⟨j, hj, rfl⟩ := nI_of z
    refine ⟨j, ?_, ?_, rfl⟩
    · exact (nI_leI (by omega) hj).mp (Int32.not_lt.mp h2)
    · rcases Nat.lt_or_ge j c with y | y
      · exact y
      · exact absurd (nI_le y hj) h1
theorem ask_n {f c r : Nat} (h1 : f ≤ r) (h2 : r < c) (hc : c ≤ 64) (q : nI r < nI f ∨ nI c ≤ nI r) : False := by
  rcases q with q | q
  · exact absurd (nI_le h1 (by omega)) (Int32.not_le.mpr q)
  · exact nI_ge h2 (by omega) q
theorem tr_au {σ : Sg} {fa fs : Nat → Int32} {i r : Nat} {d : Dm} (h : ∀ i j d r, i < 8 → j < 64 → σ.ds i = some d → d.rv j = some r → fa (64 * i + j) = r.au ∧ fs (64 * i + j) = r.sm) (hi : i < 8) (hd : σ.ds i = some d) : ∀ j v, j < 64 → cutA r d.rv 0 j = some v → fa (64 * i + j) = v.au ∧ fs (64 * i + j) = v.sm := by
  intro j v hj hv
  unfold cutA at hv
  split at hv
  · cases hv
  · exact h i j d v hi hj hd hv
theorem ab_2 {σ : Sg} {w a b : Int32} (h : w < 0 ∨ 1 < w) : (if w = 0 then (σ, (0 : Int32), a) else if w = 1 then (σ, 0, b) else (σ, 2, 0)) = (σ, 2, 0) := by
  rw [if_neg, if_neg]
  · intro z; subst z; exact absurd h (by decide)
  · intro z; subst z; exact absurd h (by decide)
theorem ab_1 {σ : Sg} {w a b : Int32} (h1 : ¬ w < 0) (h2 : w ≤ 1) (h3 : ¬ w = 0) : (if w = 0 then (σ, (0 : Int32), a) else if w = 1 then (σ, 0, b) else (σ, 2, 0)) = (σ, 0, b) := by
  obtain ⟨j, hj, rfl⟩ := nI_of h1
  have h4 := (nI_leI (b := 1) hj (by decide)).mp h2
  have h5 : j = 1 := by
    rcases Nat.eq_zero_or_pos j with z | z
    · subst z; exact absurd rfl h3
    · omega
  subst h5
  rw [if_neg h3, if_pos (show nI 1 = 1 from rfl)]
theorem rGet_N {ds : Nat → Option Dm} {a1 a2 : Int32} (h : dGet ds a1 = none) : rGet ds a1 a2 = none := by
  rw [rGet, h]
theorem rGet_F {ds : Nat → Option Dm} {a1 a2 : Int32} {i : Nat} {d : Dm} (h : dGet ds a1 = some (i, d)) (hd : dmOk d) (hF : a2 < 0 ∨ nI 64 ≤ a2) : rGet ds a1 a2 = none := by
  rw [rGet, h]
  refine if_pos ?_
  rcases hF with q | q
  · exact Or.inl q
  · exact Or.inr (Int32.le_trans (nI_le hd.2.1 (by decide)) q)
theorem rGet_G {ds : Nat → Option Dm} {a1 : Int32} {i j : Nat} {d : Dm} (h : dGet ds a1 = some (i, d)) (hj : j < 64) (hr : d.rv j = none) : rGet ds a1 (nI j) = none := by
  rw [rGet, h]
  show (if nI j < 0 ∨ nI d.count ≤ nI j then none else (d.rv (nI j).toNatClampNeg).map (fun r => (i, d, (nI j).toNatClampNeg, r))) = none
  split
  · rfl
  · rw [nI_clamp (by omega), hr]; rfl
theorem rGet_S {ds : Nat → Option Dm} {a1 : Int32} {i j : Nat} {d : Dm} {r : Rv} (h : dGet ds a1 = some (i, d)) (hd : dmOk d) (hr : d.rv j = some r) : rGet ds a1 (nI j) = some (i, d, j, r) := by
  have h1 := (hd.2.2.2 j r hr).1
  have h2 := hd.2.1
  rw [rGet, h]
  show (if nI j < 0 ∨ nI d.count ≤ nI j then none else (d.rv (nI j).toNatClampNeg).map (fun r => (i, d, (nI j).toNatClampNeg, r))) = some (i, d, j, r)
  rw [if_neg, nI_clamp (by omega), hr]
  · rfl
  · intro q
    rcases q with q | q
    · exact nI_pos (by omega) q
    · exact nI_ge h1 (by omega) q
theorem xor_nbb (x m : Int32) : nbb (x ^^^ nbb m) = nbb (x ^^^ m) := by
  unfold nbb
  congr 1
  apply Int8.toBitVec_inj.mp
  simp
theorem by_s {S : List Int32} {b k : Nat} {fr : Nat → Int32} (h : sx S b fr) (hk : k < S.length) : fr (Int32.toNatClampNeg (nI (b + k))) &&& 255 = bAt S (nI k) := by
  have := h.2.2
  rw [nI_clamp (by omega), h.1 k hk, bAt, if_neg, nI_clamp (by omega)]
  intro q
  rcases q with q | q
  · exact nI_pos (by omega) q
  · exact nI_ge hk (by omega) q
theorem by_n {S : List Int32} {i : Int32} (h : i < 0 ∨ nI S.length ≤ i) : bAt S i = (-1) := by
  rw [bAt, if_pos h]
theorem by_k {n : Nat} {i : Int32} (h1 : ¬ i < 0) (h2 : ¬ nI n ≤ i) : ∃ k, k < n ∧ k < 2 ^ 31 ∧ i = nI k := by
  obtain ⟨j, hj, rfl⟩ := nI_of h1
  refine ⟨j, ?_, hj, rfl⟩
  rcases Nat.lt_or_ge j n with z | z
  · exact z
  · exact absurd (nI_le z hj) h2
theorem da_au {σ : Sg} {fa fs : Nat → Int32} {i j : Nat} {d : Dm} {v : Rv} {S' : List Int32} (h : ∀ i j d r, i < 8 → j < 64 → σ.ds i = some d → d.rv j = some r → fa (64 * i + j) = r.au ∧ fs (64 * i + j) = r.sm) (hi : i < 8) (hd : σ.ds i = some d) (hv : d.rv j = some v) : ∀ k w, k < 64 → va_up d.rv j (some ⟨S', v.au, v.sm⟩) k = some w → fa (64 * i + k) = w.au ∧ fs (64 * i + k) = w.sm := by
  intro k w hk hw
  by_cases z : k = j
  · subst z
    rw [va_up_self] at hw
    cases hw
    exact h i k d v hi hk hd hv
  · rw [va_up_ne _ _ z] at hw
    exact h i k d w hi hk hd hw
theorem lnq_set {ds : Nat → Option Dm} {q k : Nat} {S : List Int32} {b : Int32} (h : pqS ds q = some S) : ∀ j, lnq (va_up (pqS ds) q (some (S.set k b))) j = lnq (pqS ds) j := by
  intro j
  unfold lnq
  by_cases z : j = q
  · subst z
    rw [va_up_self, h]
    show some (S.set k b).length = some S.length
    rw [List.length_set]
  · rw [va_up_ne _ _ z]
theorem by_f {n k : Nat} (h : k < n) (hk : k < 2 ^ 31) (q : nI k < 0 ∨ nI n ≤ nI k) (hn : n < 2 ^ 31 := by omega) : False := by
  rcases q with q | q
  · exact nI_pos hk q
  · exact nI_ge h hn q
theorem da_b {fr : Nat → Int32} {x3 x2 x1 x0 m : Int32} {k : Nat} (e3 : x2.toInt8.toInt32 = x3) (e2 : x2 = x0 ^^^ x1) (e1 : m.toInt8.toInt32 = x1) (e0 : x0 = fr (Int32.toNatClampNeg (nI k))) (hk : k < 2 ^ 31 := by omega) : nbb x3 = nbb (fr k ^^^ nbb m) := by
  rw [← e3, e2, e0, nI_clamp hk, ← e1]
  exact nbb_B _
theorem bct_s : ∀ k, k < 64 → 0 < k → bct 6 k = bct 6 (bs k) + 1 := by
  have h : ∀ k : Fin 64, 0 < k.1 → bct 6 k.1 = bct 6 (bs k.1) + 1 := by decide +kernel
  intro k hk
  exact h ⟨k, hk⟩
theorem bct_le : ∀ k, k < 64 → bct 6 k ≤ 6 := by
  have h : ∀ k : Fin 64, bct 6 k.1 ≤ 6 := by decide +kernel
  intro k hk
  exact h ⟨k, hk⟩
theorem fc_step {Y : List Int32} {k j : Nat} {f ft : Nat → Int32} {x : Int32} (h : tx Y k f) (hk : k ≤ 256) (hj : j < k) (e : x = f (Int32.toNatClampNeg (nI j))) (hu : tx (Y.take j) j ft) : tx (Y.take (j + 1)) (j + 1) (upd ft j (nbb x)) := by
  rw [nI_clamp (by omega)] at e
  have hB : isB x := by rw [e]; exact tx_inB h hj
  rw [take_snoc (by rw [h.1]; exact hj), ← tx_at h hj, ← e, show nbb x = x from hB]
  exact tx_push hu hB
def shu (fr : Nat → Int32) (n m : Nat) : Nat → Int32 := fun i => if m ≤ i ∧ i < 16384 then nbb (fr (i - n)) else fr i
theorem shu_0 (fr : Nat → Int32) (n : Nat) : shu fr n 16384 = fr := by
  funext i
  rw [shu, if_neg (by omega)]
theorem shu_1 {fr : Nat → Int32} {n m k : Nat} (h : m = k + 1) (hm : m ≤ 16384) : upd (shu fr n m) k (nbb (shu fr n m (k - n))) = shu fr n k := by
  funext i
  have e : shu fr n m (k - n) = fr (k - n) := by rw [shu, if_neg (by omega)]
  rw [e]
  by_cases z : i = k
  · subst z
    rw [pk_us, shu, if_pos ⟨Nat.le_refl _, by omega⟩]
  · rw [pk_un z, shu, shu]
    by_cases y : m ≤ i ∧ i < 16384
    · rw [if_pos y, if_pos ⟨by omega, y.2⟩]
    · rw [if_neg y, if_neg (by omega)]
def cpw (g p : Nat → Int32) (b j : Nat) : Nat → Int32 := fun i => if b ≤ i ∧ i < b + j then nbb (p (i - b)) else g i
theorem cpw_0 (g p : Nat → Int32) (b : Nat) : cpw g p b 0 = g := by
  funext i
  rw [cpw, if_neg (by omega)]
theorem cpw_1 {g p : Nat → Int32} {b j : Nat} : upd (cpw g p b j) (b + j) (nbb (p j)) = cpw g p b (j + 1) := by
  funext i
  by_cases z : i = b + j
  · subst z
    rw [pk_us, cpw, if_pos ⟨by omega, by omega⟩, Nat.add_sub_cancel_left]
  · rw [pk_un z, cpw, cpw]
    by_cases y : b ≤ i ∧ i < b + j
    · rw [if_pos y, if_pos ⟨y.1, by omega⟩]
    · rw [if_neg y, if_neg (by omega)]
theorem bgs_frb (ln : Nat → Option Nat) : ∀ n, bgs ln n ≤ 32 * frb ln n
  | 0 => Nat.le_refl _
  | n + 1 => by
    have := bgs_frb ln n
    rw [bgs, frb, blk]
    omega
theorem row_cm {pq : Nat → Option (List Int32)} {fr fp : Nat → Int32} {q n : Nat} {S : List Int32} (h : rowOk pq fr) (hq : q < 512) (hn : pq q = none) (hS : tx S n fp) (hf : frb (lnq pq) 512 + blk n ≤ 512) : bgs (lnq pq) q + n ≤ 16384 ∧ rowOk (va_up pq q (some S)) (cpw (shu fr n (bgs (lnq pq) q + n)) fp (bgs (lnq pq) q) n) := by
  have h1 := bgs_frb (lnq pq) 512
  rw [bgs_cat] at h1
  have h3 : n ≤ 32 * blk n := by unfold blk; omega
  have h4 : bgs (lnq pq) q ≤ (cat pq 512).length := by
    obtain ⟨R, hR⟩ := cat_split (pq := pq) hq
    have := congrArg List.length (hR pq (fun _ _ => rfl))
    simp only [List.length_append] at this
    rw [bgs_cat]
    omega
  obtain ⟨s1, s2, s3⟩ := hS
  refine ⟨by omega, row_put h hq hn s3 (by rw [s1]; omega) (fun j hj => ?_) (fun j hj => ?_) (fun j a1 a2 => ?_)⟩
  · rw [cpw, if_neg (by omega), shu, if_neg (by omega)]
  · rw [s1] at hj
    rw [cpw, if_pos ⟨by omega, by omega⟩, Nat.add_sub_cancel_left, s2 j hj]
    exact s3 _ (getD_mem (by rw [s1]; exact hj))
  · rw [s1] at a1 ⊢
    rw [cpw, if_neg (by omega), shu, if_pos ⟨by omega, a2⟩]
theorem lnq_put {pq : Nat → Option (List Int32)} {fl : Nat → Int32} {q n : Nat} {S : List Int32} (h : ∀ j, j < 512 → fl j = vI (lnq pq j)) (hn : S.length = n) : ∀ j, j < 512 → upd fl q (nI n) j = vI (lnq (va_up pq q (some S)) j) := by
  intro j hj
  by_cases z : j = q
  · subst z
    rw [pk_us, lnq, va_up_self]
    show nI n = nI S.length
    rw [hn]
  · rw [pk_un z, h j hj, lnq, lnq, va_up_ne _ _ z]
theorem cm_au {σ : Sg} {fa fs : Nat → Int32} {i : Nat} {d : Dm} {v : Rv} (h : ∀ i j d r, i < 8 → j < 64 → σ.ds i = some d → d.rv j = some r → fa (64 * i + j) = r.au ∧ fs (64 * i + j) = r.sm) (hi : i < 8) (hd : σ.ds i = some d) : ∀ k w, k < 64 → va_up d.rv d.count (some v) k = some w → upd fa (64 * i + d.count) v.au (64 * i + k) = w.au ∧ upd fs (64 * i + d.count) v.sm (64 * i + k) = w.sm := by
  intro k w hk hw
  by_cases z : k = d.count
  · subst z
    rw [va_up_self] at hw
    cases hw
    exact ⟨pk_us, pk_us⟩
  · rw [va_up_ne _ _ z] at hw
    rw [pk_un (by omega), pk_un (by omega)]
    exact h i k d w hi hk hd hw
theorem i2s_512 {n : Nat} (h : n ≤ 600) : (nI n).toInt16.toInt32 = nI n := by
  have H : ∀ n : Fin 601, (nI n.1).toInt16.toInt32 = nI n.1 := by decide +kernel
  exact H ⟨n, by omega⟩
theorem cm_nn {ds : Nat → Option Dm} {i : Nat} {d : Dm} (h : ds i = some d) (hd : dmOk d) (hc : d.count < 64) : pqS ds (64 * i + d.count) = none := by
  rw [pqS_s hc h, dmP]
  cases e : d.rv d.count with
  | none => rfl
  | some r => have := (hd.2.2.2 _ r e).1; omega
theorem nwI_lt {m t : Nat} (hm : m < 2 ^ 31) (ht : t < 2 ^ 31) : nwI m < nI t ↔ m ≤ t := by
  cases m with
  | zero =>
    refine ⟨fun _ => Nat.zero_le _, fun _ => ?_⟩
    exact Int32.lt_of_lt_of_le (show (-1 : Int32) < 0 by decide) (Int32.not_lt.mp (nI_pos ht))
  | succ k =>
    show nI k < nI t ↔ _
    rw [nI_ltI (by omega) ht]
    omega
theorem snd6_t {d : Dm} {r : Nat} {Y : List Int32} {v : Rv} (h1 : agn (dmP d) r = some Y) (h2 : d.rv r = some v) (h : sumL Y = v.sm) : snd6 d r = true := by
  rw [snd6, h1, h2]
  exact decide_eq_true h
theorem snd6_f {d : Dm} {r : Nat} {Y : List Int32} {v : Rv} (h1 : agn (dmP d) r = some Y) (h2 : d.rv r = some v) (h : ¬ sumL Y = v.sm) : snd6 d r = false := by
  rw [snd6, h1, h2]
  exact decide_eq_false h
theorem vrf_f {d : Dm} : ∀ n r k, r ≤ k → k < r + n → (∀ t, r ≤ t → t < k → snd6 d t = true) → snd6 d k = false → vrf d n r = nI k
  | 0, r, k, h1, h2, _, _ => by omega
  | n + 1, r, k, h1, h2, h3, h4 => by
    rw [vrf]
    by_cases z : r = k
    · subst z
      rw [if_neg (by rw [h4]; decide)]
    · rw [if_pos (h3 r (Nat.le_refl _) (by omega))]
      exact vrf_f n (r + 1) k (by omega) (by omega) (fun t a b => h3 t (by omega) b) h4
theorem vrf_t {d : Dm} : ∀ n r, (∀ t, r ≤ t → t < r + n → snd6 d t = true) → vrf d n r = (-1)
  | 0, _, _ => rfl
  | n + 1, r, h => by
    rw [vrf, if_pos (h r (Nat.le_refl _) (by omega))]
    exact vrf_t n (r + 1) (fun t a b => h t (by omega) (by omega))
end
