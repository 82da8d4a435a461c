set_option maxHeartbeats 4000000 in
set_option maxRecDepth 100000 in
theorem o_put (l : Launch) (dC : Nat → ClassId) (dI : Nat → Nat → Nat) (sz : Nat) (h0 : Nat) (i_thrown : Int32) (i_down : Int32) (i_lasts : Int32) (v_buffer : Value) (i_size : Int32) (i_documents : Int32) (v_gone : Value) (v_first : Value) (v_many : Value) (v_lengths : Value) (v_authors : Value) (v_sums : Value) (v_row : Value) (v_made : Value) (i_madeSize : Int32) (v_base : Value) (i_baseSize : Int32) (v_text : Value) (i_textSize : Int32) (i_textSteps : Int32) (v_other : Value) (i_otherSize : Int32) (i_at : Int32) (i_end : Int32) (i_value : Int32) (hpc : Nat) (cC : ClassId) (q : Nat) (g : Nat → Int32) (P : List Int32) (a1 : Int32) (hp : tx P q g) (hq : q < 600) : Met l y_O_put k_O_put ({ frames := 0, cells := 0, slots := 0, locals := 0 } : Room) (va_Pc [.ref h0, .int a1] (pc_E (dC, dI) [(h0, .inr (7, [.int i_thrown, .int i_down, .int i_lasts, v_buffer, .int i_size, .int i_documents, v_gone, v_first, v_many, v_lengths, v_authors, v_sums, v_row, v_made, .int i_madeSize, v_base, .int i_baseSize, v_text, .int i_textSize, .int i_textSteps, v_other, .int i_otherSize, .ref hpc, .int (nI q), .int i_at, .int i_end, .int i_value])), (hpc, .inl (cC, 600, .inl (g)))] [(cC, .byte)] sz)) (va_Qv (fun (_ : Unit) => True) (fun (_ : Unit) t => ∃ (g2 : Nat → Int32), (tx (P ++ [nbb a1]) (q + 1) g2) ∧ at_E (dC, dI) (va_A [(h0, .inr (7, [.int i_thrown, .int i_down, .int i_lasts, v_buffer, .int i_size, .int i_documents, v_gone, v_first, v_many, v_lengths, v_authors, v_sums, v_row, v_made, .int i_madeSize, v_base, .int i_baseSize, v_text, .int i_textSize, .int i_textSteps, v_other, .int i_otherSize, .ref hpc, .int (nI q), .int i_at, .int i_end, .int i_value])), (hpc, .inl (cC, 600, .inl (g)))] sz) [(h0, .inr (7, [.int i_thrown, .int i_down, .int i_lasts, v_buffer, .int i_size, .int i_documents, v_gone, v_first, v_many, v_lengths, v_authors, v_sums, v_row, v_made, .int i_madeSize, v_base, .int i_baseSize, v_text, .int i_textSize, .int i_textSteps, v_other, .int i_otherSize, .ref hpc, .int (nI (q + 1)), .int i_at, .int i_end, .int i_value])), (hpc, .inl (cC, 600, .inl (g2)))] [(cC, .byte)] t) (va_A [(h0, .inr (7, [.int i_thrown, .int i_down, .int i_lasts, v_buffer, .int i_size, .int i_documents, v_gone, v_first, v_many, v_lengths, v_authors, v_sums, v_row, v_made, .int i_madeSize, v_base, .int i_baseSize, v_text, .int i_textSize, .int i_textSteps, v_other, .int i_otherSize, .ref hpc, .int (nI q), .int i_at, .int i_end, .int i_value])), (hpc, .inl (cC, 600, .inl (g)))] sz)) 0 0 (va_A [(h0, .inr (7, [.int i_thrown, .int i_down, .int i_lasts, v_buffer, .int i_size, .int i_documents, v_gone, v_first, v_many, v_lengths, v_authors, v_sums, v_row, v_made, .int i_madeSize, v_base, .int i_baseSize, v_text, .int i_textSize, .int i_textSteps, v_other, .int i_otherSize, .ref hpc, .int (nI q), .int i_at, .int i_end, .int i_value])), (hpc, .inl (cC, 600, .inl (g)))] sz) := by
  refine Met.ofW (cc := prog_9_method_21_code) (maxL := 2) (ret := none) (by decide) rfl ?_
  intro p e s m args below meth c s₁ B hml hv
  obtain ⟨rfl, hsz, hP, hK, hD0, hN⟩ := hv
  have hx := B.exec
  have hb := B.bytes
  have hr := B.returns
  have hts := atoms_spec (ws := k_O_put) B.pre
  have hw0 : ∀ w ∈ w0, w.before _ s = true := fun w h => hts w (List.mem_cons_of_mem _ h)
  have hown : s.vm.findClass R_O = some m.cls := findClass_of_methodNamed B.named
  have hlocks := B.notSynchronized
  subst hsz
  have hD := hD0.self (sz := s.heap.size)
  generalize hAe : va_A [(h0, .inr (7, [.int i_thrown, .int i_down, .int i_lasts, v_buffer, .int i_size, .int i_documents, v_gone, v_first, v_many, v_lengths, v_authors, v_sums, v_row, v_made, .int i_madeSize, v_base, .int i_baseSize, v_text, .int i_textSize, .int i_textSteps, v_other, .int i_otherSize, .ref hpc, .int (nI q), .int i_at, .int i_end, .int i_value])), (hpc, .inl (cC, 600, .inl (g)))] s.heap.size = A at hD ⊢
  have hA : ∀ q : Nat, s.heap.size ≤ q → A q := fun q h => by rw [← hAe]; exact Or.inr h
  have hS : va_S A s.heap s.heap [] := va_S.rf
  have hP : va_P (dC, dI) vwCl [(h0, .inr (7, [.int i_thrown, .int i_down, .int i_lasts, v_buffer, .int i_size, .int i_documents, v_gone, v_first, v_many, v_lengths, v_authors, v_sums, v_row, v_made, .int i_madeSize, v_base, .int i_baseSize, v_text, .int i_textSize, .int i_textSteps, v_other, .int i_otherSize, .ref hpc, .int (nI q), .int i_at, .int i_end, .int i_value])), (hpc, .inl (cC, 600, .inl (g)))] s.heap := hP
  have hl := lv_entry ([.ref h0, .int a1]) (n := 2) (Nat.le_of_ble_eq_true rfl)
  rw [lg_entry_eq]
  generalize (lg_sl ([.ref h0, .int a1]) ++ List.replicate (2 - (lg_sl ([.ref h0, .int a1])).length) Slot.unset).toArray = ls at hl ⊢
  have hl : lv_has ls 2 [(0, .ref h0), (1, .int a1)] := hl
  refine lv_aload_n hx hb d_O_put_0 rfl (lv_at hl 0 rfl) ?_
  refine va_get (D := (dC, dI)) (ci := 7) (v := .ref hpc) (C := R_O) (T := F_O) (N := 27) hx hb hw0 in_O hown hK hP 0 rfl rfl 22 (by decide) (hw0 (.fieldLink R_O 59 "TextKeeperModel" "piece" "[B") (List.mem_of_getElem? (i := 156) rfl)) (fun _ h9 => h9) rfl d_O_put_1 ?_
  refine lv_aload_n hx hb d_O_put_4 rfl (lv_at hl 0 rfl) ?_
  refine va_get (D := (dC, dI)) (ci := 7) (v := .int (nI q)) (C := R_O) (T := F_O) (N := 27) hx hb hw0 in_O hown hK hP 0 rfl rfl 23 (by decide) (hw0 (.fieldLink R_O 125 "TextKeeperModel" "pieceSize" "I") (List.mem_of_getElem? (i := 157) rfl)) (fun _ h9 => h9) rfl d_O_put_5 ?_
  refine lv_iload_n hx hb d_O_put_8 rfl (lv_at hl 1 rfl) ?_
  obtain ⟨x_1, ex_1⟩ : ∃ y : Int32, a1.toInt8.toInt32 = y := ⟨_, rfl⟩
  refine lv_i2b (v := x_1) hx hb d_O_put_9 ex_1 ?_
  refine va_bast hx hb hK hP hD hS 1 0 rfl rfl (vp_in_nI hq (by decide)) d_O_put_10 (fun H locs hP hD hS => ?_)
  replace hP : va_P (dC, dI) vwCl [(h0, .inr (7, [.int i_thrown, .int i_down, .int i_lasts, v_buffer, .int i_size, .int i_documents, v_gone, v_first, v_many, v_lengths, v_authors, v_sums, v_row, v_made, .int i_madeSize, v_base, .int i_baseSize, v_text, .int i_textSize, .int i_textSteps, v_other, .int i_otherSize, .ref hpc, .int (nI q), .int i_at, .int i_end, .int i_value])), (hpc, .inl (cC, 600, .inl (upd (g) (Int32.toNatClampNeg (nI q)) (vp_nar .byte (x_1)))))] H := hP
  replace hD : va_D A [(h0, .inr (7, [.int i_thrown, .int i_down, .int i_lasts, v_buffer, .int i_size, .int i_documents, v_gone, v_first, v_many, v_lengths, v_authors, v_sums, v_row, v_made, .int i_madeSize, v_base, .int i_baseSize, v_text, .int i_textSize, .int i_textSteps, v_other, .int i_otherSize, .ref hpc, .int (nI q), .int i_at, .int i_end, .int i_value])), (hpc, .inl (cC, 600, .inl (upd (g) (Int32.toNatClampNeg (nI q)) (vp_nar .byte (x_1)))))] := hD
  have eS : upd (g) (Int32.toNatClampNeg (nI q)) (vp_nar .byte (x_1)) = upd g q (nbb a1) := by rw [nI_clamp (by omega), ← ex_1]; exact congrArg (upd g q) (pk_vb a1)
  rw [eS] at hP hD
  refine lv_aload_n hx hb d_O_put_11 rfl (lv_at hl 0 rfl) ?_
  refine lv_dup hx hb d_O_put_12 rfl ?_
  refine va_get (D := (dC, dI)) (ci := 7) (v := .int (nI q)) (C := R_O) (T := F_O) (N := 27) hx hb hw0 in_O hown hK hP 0 rfl rfl 23 (by decide) (hw0 (.fieldLink R_O 125 "TextKeeperModel" "pieceSize" "I") (List.mem_of_getElem? (i := 157) rfl)) (fun _ h9 => h9) rfl d_O_put_13 ?_
  refine lv_iconst (v := 1) hx hb d_O_put_16 (by decide) ?_
  refine lv_iadd hx hb d_O_put_17 ?_
  refine lv_topi (fun x_2 ex_2 => ?_)
  obtain rfl : x_2 = (nI (q + 1)) := by rw [ex_2]; exact nI_1 q
  clear ex_2
  refine va_put (D := (dC, dI)) (ci := 7) (v := .int (nI (q + 1))) (ty := .int) (C := R_O) (T := F_O) (N := 27) hx hb hw0 in_O ft_O tk_O nk_O hown hK hP hD hS 0 rfl rfl 23 (by decide) (hw0 (.fieldLink R_O 125 "TextKeeperModel" "pieceSize" "I") (List.mem_of_getElem? (i := 157) rfl)) (fun _ h9 => h9) rfl (by decide +kernel) rfl rfl (Nat.le_of_ble_eq_true rfl) d_O_put_18 (fun H locs hP hD hS => ?_)
  replace hP : va_P (dC, dI) vwCl [(h0, .inr (7, [.int i_thrown, .int i_down, .int i_lasts, v_buffer, .int i_size, .int i_documents, v_gone, v_first, v_many, v_lengths, v_authors, v_sums, v_row, v_made, .int i_madeSize, v_base, .int i_baseSize, v_text, .int i_textSize, .int i_textSteps, v_other, .int i_otherSize, .ref hpc, .int (nI (q + 1)), .int i_at, .int i_end, .int i_value])), (hpc, .inl (cC, 600, .inl ((upd g q (nbb a1)))))] H := hP
  replace hD : va_D A [(h0, .inr (7, [.int i_thrown, .int i_down, .int i_lasts, v_buffer, .int i_size, .int i_documents, v_gone, v_first, v_many, v_lengths, v_authors, v_sums, v_row, v_made, .int i_madeSize, v_base, .int i_baseSize, v_text, .int i_textSize, .int i_textSteps, v_other, .int i_otherSize, .ref hpc, .int (nI (q + 1)), .int i_at, .int i_end, .int i_value])), (hpc, .inl (cC, 600, .inl ((upd g q (nbb a1)))))] := hD
  have hP9 := hP.sub (ws' := [(h0, .inr (7, [.int i_thrown, .int i_down, .int i_lasts, v_buffer, .int i_size, .int i_documents, v_gone, v_first, v_many, v_lengths, v_authors, v_sums, v_row, v_made, .int i_madeSize, v_base, .int i_baseSize, v_text, .int i_textSize, .int i_textSteps, v_other, .int i_otherSize, .ref hpc, .int (nI (q + 1)), .int i_at, .int i_end, .int i_value])), (hpc, .inl (cC, 600, .inl ((upd g q (nbb a1)))))]) [0, 1] rfl
  have hD9 := hD.sub (ws' := [(h0, .inr (7, [.int i_thrown, .int i_down, .int i_lasts, v_buffer, .int i_size, .int i_documents, v_gone, v_first, v_many, v_lengths, v_authors, v_sums, v_row, v_made, .int i_madeSize, v_base, .int i_baseSize, v_text, .int i_textSize, .int i_textSteps, v_other, .int i_otherSize, .ref hpc, .int (nI (q + 1)), .int i_at, .int i_end, .int i_value])), (hpc, .inl (cC, 600, .inl ((upd g q (nbb a1)))))]) [0, 1] (by decide) rfl
  have hK9 := hK.sub (tys' := [(cC, .byte)]) [0] rfl
  exact W.vret hx hb hr (fun t ht hW => ⟨⟨(), rfl, trivial, (upd g q (nbb a1)), tx_push hp (nbb_B a1), by rw [ht]; exact hP9, va_K.moved hW.alike hK9, hD9⟩, hS.F ht⟩) hS.2.2 d_O_put_21
set_option maxHeartbeats 4000000 in
set_option maxRecDepth 100000 in
theorem o_putNumber (l : Launch) (dC : Nat → ClassId) (dI : Nat → Nat → Nat) (sz : Nat) (h0 : Nat) (i_thrown : Int32) (i_down : Int32) (i_lasts : Int32) (v_buffer : Value) (i_size : Int32) (i_documents : Int32) (v_gone : Value) (v_first : Value) (v_many : Value) (v_lengths : Value) (v_authors : Value) (v_sums : Value) (v_row : Value) (v_made : Value) (i_madeSize : Int32) (v_base : Value) (i_baseSize : Int32) (v_text : Value) (i_textSize : Int32) (i_textSteps : Int32) (v_other : Value) (i_otherSize : Int32) (i_at : Int32) (i_end : Int32) (i_value : Int32) (hpc : Nat) (cC : ClassId) (q : Nat) (g : Nat → Int32) (P : List Int32) (n : Nat) (hp : tx P q g) (hn : n < 16384) (hq : q + 2 ≤ 600) : Met l y_O_putNumber k_O_putNumber ({ frames := 1, cells := 0, slots := 0, locals := 21 } : Room) (va_Pc [.ref h0, .int (nI n)] (pc_E (dC, dI) [(h0, .inr (7, [.int i_thrown, .int i_down, .int i_lasts, v_buffer, .int i_size, .int i_documents, v_gone, v_first, v_many, v_lengths, v_authors, v_sums, v_row, v_made, .int i_madeSize, v_base, .int i_baseSize, v_text, .int i_textSize, .int i_textSteps, v_other, .int i_otherSize, .ref hpc, .int (nI q), .int i_at, .int i_end, .int i_value])), (hpc, .inl (cC, 600, .inl (g)))] [(cC, .byte)] sz)) (va_Qv (fun (_ : Unit) => True) (fun (_ : Unit) t => ∃ (q2 : Nat) (g2 : Nat → Int32), (q2 = q + dgt n ∧ tx (P ++ encN n) q2 g2) ∧ at_E (dC, dI) (va_A [(h0, .inr (7, [.int i_thrown, .int i_down, .int i_lasts, v_buffer, .int i_size, .int i_documents, v_gone, v_first, v_many, v_lengths, v_authors, v_sums, v_row, v_made, .int i_madeSize, v_base, .int i_baseSize, v_text, .int i_textSize, .int i_textSteps, v_other, .int i_otherSize, .ref hpc, .int (nI q), .int i_at, .int i_end, .int i_value])), (hpc, .inl (cC, 600, .inl (g)))] sz) [(h0, .inr (7, [.int i_thrown, .int i_down, .int i_lasts, v_buffer, .int i_size, .int i_documents, v_gone, v_first, v_many, v_lengths, v_authors, v_sums, v_row, v_made, .int i_madeSize, v_base, .int i_baseSize, v_text, .int i_textSize, .int i_textSteps, v_other, .int i_otherSize, .ref hpc, .int (nI q2), .int i_at, .int i_end, .int i_value])), (hpc, .inl (cC, 600, .inl (g2)))] [(cC, .byte)] t) (va_A [(h0, .inr (7, [.int i_thrown, .int i_down, .int i_lasts, v_buffer, .int i_size, .int i_documents, v_gone, v_first, v_many, v_lengths, v_authors, v_sums, v_row, v_made, .int i_madeSize, v_base, .int i_baseSize, v_text, .int i_textSize, .int i_textSteps, v_other, .int i_otherSize, .ref hpc, .int (nI q), .int i_at, .int i_end, .int i_value])), (hpc, .inl (cC, 600, .inl (g)))] sz)) 0 0 (va_A [(h0, .inr (7, [.int i_thrown, .int i_down, .int i_lasts, v_buffer, .int i_size, .int i_documents, v_gone, v_first, v_many, v_lengths, v_authors, v_sums, v_row, v_made, .int i_madeSize, v_base, .int i_baseSize, v_text, .int i_textSize, .int i_textSteps, v_other, .int i_otherSize, .ref hpc, .int (nI q), .int i_at, .int i_end, .int i_value])), (hpc, .inl (cC, 600, .inl (g)))] sz) := by
  refine Met.ofW (cc := prog_9_method_22_code) (maxL := 3) (ret := none) (by decide) rfl ?_
  intro p e s m args below meth c s₁ B hml hv
  obtain ⟨rfl, hsz, hP, hK, hD0, hN⟩ := hv
  have hx := B.exec
  have hb := B.bytes
  have hr := B.returns
  have hts := atoms_spec (ws := k_O_putNumber) B.pre
  have hw0 : ∀ w ∈ w0, w.before _ s = true := fun w h => hts w (List.mem_cons_of_mem _ h)
  have hown : s.vm.findClass R_O = some m.cls := findClass_of_methodNamed B.named
  have hlocks := B.notSynchronized
  subst hsz
  have hD := hD0.self (sz := s.heap.size)
  generalize hAe : va_A [(h0, .inr (7, [.int i_thrown, .int i_down, .int i_lasts, v_buffer, .int i_size, .int i_documents, v_gone, v_first, v_many, v_lengths, v_authors, v_sums, v_row, v_made, .int i_madeSize, v_base, .int i_baseSize, v_text, .int i_textSize, .int i_textSteps, v_other, .int i_otherSize, .ref hpc, .int (nI q), .int i_at, .int i_end, .int i_value])), (hpc, .inl (cC, 600, .inl (g)))] s.heap.size = A at hD ⊢
  have hA : ∀ q : Nat, s.heap.size ≤ q → A q := fun q h => by rw [← hAe]; exact Or.inr h
  have hS : va_S A s.heap s.heap [] := va_S.rf
  have hP : va_P (dC, dI) vwCl [(h0, .inr (7, [.int i_thrown, .int i_down, .int i_lasts, v_buffer, .int i_size, .int i_documents, v_gone, v_first, v_many, v_lengths, v_authors, v_sums, v_row, v_made, .int i_madeSize, v_base, .int i_baseSize, v_text, .int i_textSize, .int i_textSteps, v_other, .int i_otherSize, .ref hpc, .int (nI q), .int i_at, .int i_end, .int i_value])), (hpc, .inl (cC, 600, .inl (g)))] s.heap := hP
  have hl := lv_entry ([.ref h0, .int (nI n)]) (n := 3) (Nat.le_of_ble_eq_true rfl)
  rw [lg_entry_eq]
  generalize (lg_sl ([.ref h0, .int (nI n)]) ++ List.replicate (3 - (lg_sl ([.ref h0, .int (nI n)])).length) Slot.unset).toArray = ls at hl ⊢
  have hl : lv_has ls 3 [(0, .ref h0), (1, .int (nI n))] := hl
  refine lv_iload_n hx hb d_O_putNumber_0 rfl (lv_at hl 1 rfl) ?_
  refine lv_istore_n (lv' := [(2, .int (nI n)), (0, .ref h0), (1, .int (nI n))]) hx hb d_O_putNumber_1 rfl hl (by decide) rfl (fun ls hl => ?_)
  refine lv_iload_n hx hb d_O_putNumber_2 rfl (lv_at hl 0 rfl) ?_
  refine lv_bipush (v := 127) hx hb d_O_putNumber_3 (by decide +kernel) ?_
  refine lv_icmp_le (tgt := 30) hx hb d_O_putNumber_5 (by decide) (fun c_1 => ?_) (fun c_1 => ?_)
  · refine lv_aload_n hx hb d_O_putNumber_30 rfl (lv_at hl 1 rfl) ?_
    refine lv_iload_n hx hb d_O_putNumber_31 rfl (lv_at hl 0 rfl) ?_
    have hPc := hP.sub (ws' := [(h0, .inr (7, [.int i_thrown, .int i_down, .int i_lasts, v_buffer, .int i_size, .int i_documents, v_gone, v_first, v_many, v_lengths, v_authors, v_sums, v_row, v_made, .int i_madeSize, v_base, .int i_baseSize, v_text, .int i_textSize, .int i_textSteps, v_other, .int i_otherSize, .ref hpc, .int (nI q), .int i_at, .int i_end, .int i_value])), (hpc, .inl (cC, 600, .inl ((g))))]) [0, 1] rfl
    have hKc := hK.sub (tys' := [(cC, .byte)]) [0] rfl
    have hDc := hD.sub (ws' := [(h0, .inr (7, [.int i_thrown, .int i_down, .int i_lasts, v_buffer, .int i_size, .int i_documents, v_gone, v_first, v_many, v_lengths, v_authors, v_sums, v_row, v_made, .int i_madeSize, v_base, .int i_baseSize, v_text, .int i_textSize, .int i_textSteps, v_other, .int i_otherSize, .ref hpc, .int (nI q), .int i_at, .int i_end, .int i_value])), (hpc, .inl (cC, 600, .inl ((g))))]) [0, 1] (by decide) rfl
    have hFc := va_free (wc := [(h0, .inr (7, [.int i_thrown, .int i_down, .int i_lasts, v_buffer, .int i_size, .int i_documents, v_gone, v_first, v_many, v_lengths, v_authors, v_sums, v_row, v_made, .int i_madeSize, v_base, .int i_baseSize, v_text, .int i_textSize, .int i_textSteps, v_other, .int i_otherSize, .ref hpc, .int (nI q), .int i_at, .int i_end, .int i_value])), (hpc, .inl (cC, 600, .inl ((g))))]) hD hS hA [0, 1] rfl
    refine va_callv (va_runV (As := [.int (nI n)]) (rest := []) ⟨hx, hb, hml, hown, hw0⟩ (o_put l dC dI s.heap.size h0 i_thrown i_down i_lasts v_buffer i_size i_documents v_gone v_first v_many v_lengths v_authors v_sums v_row v_made i_madeSize v_base i_baseSize v_text i_textSize i_textSteps v_other i_otherSize i_at i_end i_value hpc cC q (g) _ (nI n) (by first | assumption | decide | omega) (by first | assumption | decide | omega)) (cwV 1 hw0 (gd_V 158 159 160 161 162 rfl rfl rfl rfl rfl) rfl rfl rfl (by decide +kernel) ⟨by decide +kernel, by decide +kernel⟩) (prV_E hPc hKc hDc hN (va_recv hKc hPc (ci := 7) (q0 := 0) rfl rfl)) rfl rfl hl.1 rfl (lv_room (Nat.le_of_ble_eq_true rfl)) d_O_putNumber_32 ⟨by decide +kernel, by decide +kernel⟩) hS (fun q _ h => hFc q h) hFc (fun u t H1 locs ht hvm hw hB hz1 hk1 hS => ?_)
    obtain ⟨g2_2, hu_3, hP1, hK1, hD1⟩ := hB
    rw [ht] at hP1
    have hK1 := va_K.moved hvm.symm hK1
    try dsimp only at hw
    obtain ⟨hP, hD⟩ := va_join (wr := []) (w1 := [(h0, .inr (7, [.int i_thrown, .int i_down, .int i_lasts, v_buffer, .int i_size, .int i_documents, v_gone, v_first, v_many, v_lengths, v_authors, v_sums, v_row, v_made, .int i_madeSize, v_base, .int i_baseSize, v_text, .int i_textSize, .int i_textSteps, v_other, .int i_otherSize, .ref hpc, .int (nI (q + 1)), .int i_at, .int i_end, .int i_value])), (hpc, .inl (cC, 600, .inl (g2_2)))]) hP hD [0, 1] [] rfl rfl (by decide) (by decide) hk1 hFc hP1 hD1
    generalize H1 = H at hP hS ⊢
    replace hP : va_P (dC, dI) vwCl [(h0, .inr (7, [.int i_thrown, .int i_down, .int i_lasts, v_buffer, .int i_size, .int i_documents, v_gone, v_first, v_many, v_lengths, v_authors, v_sums, v_row, v_made, .int i_madeSize, v_base, .int i_baseSize, v_text, .int i_textSize, .int i_textSteps, v_other, .int i_otherSize, .ref hpc, .int (nI (q + 1)), .int i_at, .int i_end, .int i_value])), (hpc, .inl (cC, 600, .inl (g2_2)))] H := hP
    replace hD : va_D A [(h0, .inr (7, [.int i_thrown, .int i_down, .int i_lasts, v_buffer, .int i_size, .int i_documents, v_gone, v_first, v_many, v_lengths, v_authors, v_sums, v_row, v_made, .int i_madeSize, v_base, .int i_baseSize, v_text, .int i_textSize, .int i_textSteps, v_other, .int i_otherSize, .ref hpc, .int (nI (q + 1)), .int i_at, .int i_end, .int i_value])), (hpc, .inl (cC, 600, .inl (g2_2)))] := hD
    replace hK : va_K (dC, dI) vwCl [(cC, .byte)] s := hK
    have hP9 := hP.sub (ws' := [(h0, .inr (7, [.int i_thrown, .int i_down, .int i_lasts, v_buffer, .int i_size, .int i_documents, v_gone, v_first, v_many, v_lengths, v_authors, v_sums, v_row, v_made, .int i_madeSize, v_base, .int i_baseSize, v_text, .int i_textSize, .int i_textSteps, v_other, .int i_otherSize, .ref hpc, .int (nI (q + 1)), .int i_at, .int i_end, .int i_value])), (hpc, .inl (cC, 600, .inl (g2_2)))]) [0, 1] rfl
    have hD9 := hD.sub (ws' := [(h0, .inr (7, [.int i_thrown, .int i_down, .int i_lasts, v_buffer, .int i_size, .int i_documents, v_gone, v_first, v_many, v_lengths, v_authors, v_sums, v_row, v_made, .int i_madeSize, v_base, .int i_baseSize, v_text, .int i_textSize, .int i_textSteps, v_other, .int i_otherSize, .ref hpc, .int (nI (q + 1)), .int i_at, .int i_end, .int i_value])), (hpc, .inl (cC, 600, .inl (g2_2)))]) [0, 1] (by decide) rfl
    have hK9 := hK.sub (tys' := [(cC, .byte)]) [0] rfl
    exact W.vret hx hb hr (fun t ht hW => ⟨⟨(), rfl, trivial, (q + 1), g2_2, (y_en1 (by omega) c_1 hu_3), by rw [ht]; exact hP9, va_K.moved hW.alike hK9, hD9⟩, hS.F ht⟩) hS.2.2 d_O_putNumber_35
  · refine lv_aload_n hx hb d_O_putNumber_8 rfl (lv_at hl 1 rfl) ?_
    refine lv_iload_n hx hb d_O_putNumber_9 rfl (lv_at hl 0 rfl) ?_
    refine lv_sipush (v := 128) hx hb d_O_putNumber_10 (by decide +kernel) ?_
    refine lv_irem hx hb d_O_putNumber_13 (by decide +kernel) ?_
    refine lv_topi (fun x_4 ex_4 => ?_)
    obtain rfl : x_4 = (nI (n % 128)) := by rw [ex_4]; exact (show nI n - nI n / nI 128 * nI 128 = nI (n % 128) from pk_rem (by omega) (by decide) (by decide))
    clear ex_4
    refine lv_sipush (v := 128) hx hb d_O_putNumber_14 (by decide +kernel) ?_
    refine lv_iadd hx hb d_O_putNumber_17 ?_
    refine lv_topi (fun x_5 ex_5 => ?_)
    obtain rfl : x_5 = (nI (n % 128 + 128)) := by rw [ex_5]; exact nI_add (n % 128) 128
    clear ex_5
    have hPc := hP.sub (ws' := [(h0, .inr (7, [.int i_thrown, .int i_down, .int i_lasts, v_buffer, .int i_size, .int i_documents, v_gone, v_first, v_many, v_lengths, v_authors, v_sums, v_row, v_made, .int i_madeSize, v_base, .int i_baseSize, v_text, .int i_textSize, .int i_textSteps, v_other, .int i_otherSize, .ref hpc, .int (nI q), .int i_at, .int i_end, .int i_value])), (hpc, .inl (cC, 600, .inl ((g))))]) [0, 1] rfl
    have hKc := hK.sub (tys' := [(cC, .byte)]) [0] rfl
    have hDc := hD.sub (ws' := [(h0, .inr (7, [.int i_thrown, .int i_down, .int i_lasts, v_buffer, .int i_size, .int i_documents, v_gone, v_first, v_many, v_lengths, v_authors, v_sums, v_row, v_made, .int i_madeSize, v_base, .int i_baseSize, v_text, .int i_textSize, .int i_textSteps, v_other, .int i_otherSize, .ref hpc, .int (nI q), .int i_at, .int i_end, .int i_value])), (hpc, .inl (cC, 600, .inl ((g))))]) [0, 1] (by decide) rfl
    have hFc := va_free (wc := [(h0, .inr (7, [.int i_thrown, .int i_down, .int i_lasts, v_buffer, .int i_size, .int i_documents, v_gone, v_first, v_many, v_lengths, v_authors, v_sums, v_row, v_made, .int i_madeSize, v_base, .int i_baseSize, v_text, .int i_textSize, .int i_textSteps, v_other, .int i_otherSize, .ref hpc, .int (nI q), .int i_at, .int i_end, .int i_value])), (hpc, .inl (cC, 600, .inl ((g))))]) hD hS hA [0, 1] rfl
    refine va_callv (va_runV (As := [.int (nI (n % 128 + 128))]) (rest := []) ⟨hx, hb, hml, hown, hw0⟩ (o_put l dC dI s.heap.size h0 i_thrown i_down i_lasts v_buffer i_size i_documents v_gone v_first v_many v_lengths v_authors v_sums v_row v_made i_madeSize v_base i_baseSize v_text i_textSize i_textSteps v_other i_otherSize i_at i_end i_value hpc cC q (g) _ (nI (n % 128 + 128)) (by first | assumption | decide | omega) (by first | assumption | decide | omega)) (cwV 1 hw0 (gd_V 158 159 160 161 162 rfl rfl rfl rfl rfl) rfl rfl rfl (by decide +kernel) ⟨by decide +kernel, by decide +kernel⟩) (prV_E hPc hKc hDc hN (va_recv hKc hPc (ci := 7) (q0 := 0) rfl rfl)) rfl rfl hl.1 rfl (lv_room (Nat.le_of_ble_eq_true rfl)) d_O_putNumber_18 ⟨by decide +kernel, by decide +kernel⟩) hS (fun q _ h => hFc q h) hFc (fun u t H1 locs ht hvm hw hB hz1 hk1 hS => ?_)
    obtain ⟨g2_6, hu_7, hP1, hK1, hD1⟩ := hB
    rw [ht] at hP1
    have hK1 := va_K.moved hvm.symm hK1
    try dsimp only at hw
    obtain ⟨hP, hD⟩ := va_join (wr := []) (w1 := [(h0, .inr (7, [.int i_thrown, .int i_down, .int i_lasts, v_buffer, .int i_size, .int i_documents, v_gone, v_first, v_many, v_lengths, v_authors, v_sums, v_row, v_made, .int i_madeSize, v_base, .int i_baseSize, v_text, .int i_textSize, .int i_textSteps, v_other, .int i_otherSize, .ref hpc, .int (nI (q + 1)), .int i_at, .int i_end, .int i_value])), (hpc, .inl (cC, 600, .inl (g2_6)))]) hP hD [0, 1] [] rfl rfl (by decide) (by decide) hk1 hFc hP1 hD1
    generalize H1 = H at hP hS ⊢
    replace hP : va_P (dC, dI) vwCl [(h0, .inr (7, [.int i_thrown, .int i_down, .int i_lasts, v_buffer, .int i_size, .int i_documents, v_gone, v_first, v_many, v_lengths, v_authors, v_sums, v_row, v_made, .int i_madeSize, v_base, .int i_baseSize, v_text, .int i_textSize, .int i_textSteps, v_other, .int i_otherSize, .ref hpc, .int (nI (q + 1)), .int i_at, .int i_end, .int i_value])), (hpc, .inl (cC, 600, .inl (g2_6)))] H := hP
    replace hD : va_D A [(h0, .inr (7, [.int i_thrown, .int i_down, .int i_lasts, v_buffer, .int i_size, .int i_documents, v_gone, v_first, v_many, v_lengths, v_authors, v_sums, v_row, v_made, .int i_madeSize, v_base, .int i_baseSize, v_text, .int i_textSize, .int i_textSteps, v_other, .int i_otherSize, .ref hpc, .int (nI (q + 1)), .int i_at, .int i_end, .int i_value])), (hpc, .inl (cC, 600, .inl (g2_6)))] := hD
    replace hK : va_K (dC, dI) vwCl [(cC, .byte)] s := hK
    refine lv_iload_n hx hb d_O_putNumber_21 rfl (lv_at hl 0 rfl) ?_
    refine lv_sipush (v := 128) hx hb d_O_putNumber_22 (by decide +kernel) ?_
    refine lv_idiv hx hb d_O_putNumber_25 (by decide +kernel) ?_
    refine lv_topi (fun x_8 ex_8 => ?_)
    obtain rfl : x_8 = (nI (n / 128)) := by rw [ex_8]; exact (show nI n / nI 128 = nI (n / 128) from pk_div (by omega) (by decide) (by decide))
    clear ex_8
    refine lv_istore_n (lv' := [(2, .int (nI (n / 128))), (0, .ref h0), (1, .int (nI n))]) hx hb d_O_putNumber_26 rfl hl (by decide) rfl (fun ls hl => ?_)
    refine lv_goto (tgt := 2) hx hb d_O_putNumber_27 (by decide) ?_
    refine lv_iload_n hx hb d_O_putNumber_2 rfl (lv_at hl 0 rfl) ?_
    refine lv_bipush (v := 127) hx hb d_O_putNumber_3 (by decide +kernel) ?_
    refine lv_icmp_le (tgt := 30) hx hb d_O_putNumber_5 (by decide) (fun c_9 => ?_) (fun c_9 => absurd (show nI (n / 128) ≤ nI 127 from nI_le (by omega) (by decide)) c_9)
    refine lv_aload_n hx hb d_O_putNumber_30 rfl (lv_at hl 1 rfl) ?_
    refine lv_iload_n hx hb d_O_putNumber_31 rfl (lv_at hl 0 rfl) ?_
    have hPc := hP.sub (ws' := [(h0, .inr (7, [.int i_thrown, .int i_down, .int i_lasts, v_buffer, .int i_size, .int i_documents, v_gone, v_first, v_many, v_lengths, v_authors, v_sums, v_row, v_made, .int i_madeSize, v_base, .int i_baseSize, v_text, .int i_textSize, .int i_textSteps, v_other, .int i_otherSize, .ref hpc, .int (nI (q + 1)), .int i_at, .int i_end, .int i_value])), (hpc, .inl (cC, 600, .inl ((g2_6))))]) [0, 1] rfl
    have hKc := hK.sub (tys' := [(cC, .byte)]) [0] rfl
    have hDc := hD.sub (ws' := [(h0, .inr (7, [.int i_thrown, .int i_down, .int i_lasts, v_buffer, .int i_size, .int i_documents, v_gone, v_first, v_many, v_lengths, v_authors, v_sums, v_row, v_made, .int i_madeSize, v_base, .int i_baseSize, v_text, .int i_textSize, .int i_textSteps, v_other, .int i_otherSize, .ref hpc, .int (nI (q + 1)), .int i_at, .int i_end, .int i_value])), (hpc, .inl (cC, 600, .inl ((g2_6))))]) [0, 1] (by decide) rfl
    have hFc := va_free (wc := [(h0, .inr (7, [.int i_thrown, .int i_down, .int i_lasts, v_buffer, .int i_size, .int i_documents, v_gone, v_first, v_many, v_lengths, v_authors, v_sums, v_row, v_made, .int i_madeSize, v_base, .int i_baseSize, v_text, .int i_textSize, .int i_textSteps, v_other, .int i_otherSize, .ref hpc, .int (nI (q + 1)), .int i_at, .int i_end, .int i_value])), (hpc, .inl (cC, 600, .inl ((g2_6))))]) hD hS hA [0, 1] rfl
    refine va_callv (va_runV (As := [.int (nI (n / 128))]) (rest := []) ⟨hx, hb, hml, hown, hw0⟩ (o_put l dC dI H.size h0 i_thrown i_down i_lasts v_buffer i_size i_documents v_gone v_first v_many v_lengths v_authors v_sums v_row v_made i_madeSize v_base i_baseSize v_text i_textSize i_textSteps v_other i_otherSize i_at i_end i_value hpc cC (q + 1) (g2_6) _ (nI (n / 128)) (by first | assumption | decide | omega) (by first | assumption | decide | omega)) (cwV 1 hw0 (gd_V 158 159 160 161 162 rfl rfl rfl rfl rfl) rfl rfl rfl (by decide +kernel) ⟨by decide +kernel, by decide +kernel⟩) (prV_E hPc hKc hDc hN (va_recv hKc hPc (ci := 7) (q0 := 0) rfl rfl)) rfl rfl hl.1 rfl (lv_room (Nat.le_of_ble_eq_true rfl)) d_O_putNumber_32 ⟨by decide +kernel, by decide +kernel⟩) hS (fun q _ h => hFc q h) hFc (fun u t H1 locs ht hvm hw hB hz1 hk1 hS => ?_)
    obtain ⟨g2_10, hu_11, hP1, hK1, hD1⟩ := hB
    rw [ht] at hP1
    have hK1 := va_K.moved hvm.symm hK1
    try dsimp only at hw
    obtain ⟨hP, hD⟩ := va_join (wr := []) (w1 := [(h0, .inr (7, [.int i_thrown, .int i_down, .int i_lasts, v_buffer, .int i_size, .int i_documents, v_gone, v_first, v_many, v_lengths, v_authors, v_sums, v_row, v_made, .int i_madeSize, v_base, .int i_baseSize, v_text, .int i_textSize, .int i_textSteps, v_other, .int i_otherSize, .ref hpc, .int (nI ((q + 1) + 1)), .int i_at, .int i_end, .int i_value])), (hpc, .inl (cC, 600, .inl (g2_10)))]) hP hD [0, 1] [] rfl rfl (by decide) (by decide) hk1 hFc hP1 hD1
    generalize H1 = H at hP hS ⊢
    replace hP : va_P (dC, dI) vwCl [(h0, .inr (7, [.int i_thrown, .int i_down, .int i_lasts, v_buffer, .int i_size, .int i_documents, v_gone, v_first, v_many, v_lengths, v_authors, v_sums, v_row, v_made, .int i_madeSize, v_base, .int i_baseSize, v_text, .int i_textSize, .int i_textSteps, v_other, .int i_otherSize, .ref hpc, .int (nI ((q + 1) + 1)), .int i_at, .int i_end, .int i_value])), (hpc, .inl (cC, 600, .inl (g2_10)))] H := hP
    replace hD : va_D A [(h0, .inr (7, [.int i_thrown, .int i_down, .int i_lasts, v_buffer, .int i_size, .int i_documents, v_gone, v_first, v_many, v_lengths, v_authors, v_sums, v_row, v_made, .int i_madeSize, v_base, .int i_baseSize, v_text, .int i_textSize, .int i_textSteps, v_other, .int i_otherSize, .ref hpc, .int (nI ((q + 1) + 1)), .int i_at, .int i_end, .int i_value])), (hpc, .inl (cC, 600, .inl (g2_10)))] := hD
    replace hK : va_K (dC, dI) vwCl [(cC, .byte)] s := hK
    have hP9 := hP.sub (ws' := [(h0, .inr (7, [.int i_thrown, .int i_down, .int i_lasts, v_buffer, .int i_size, .int i_documents, v_gone, v_first, v_many, v_lengths, v_authors, v_sums, v_row, v_made, .int i_madeSize, v_base, .int i_baseSize, v_text, .int i_textSize, .int i_textSteps, v_other, .int i_otherSize, .ref hpc, .int (nI ((q + 1) + 1)), .int i_at, .int i_end, .int i_value])), (hpc, .inl (cC, 600, .inl (g2_10)))]) [0, 1] rfl
    have hD9 := hD.sub (ws' := [(h0, .inr (7, [.int i_thrown, .int i_down, .int i_lasts, v_buffer, .int i_size, .int i_documents, v_gone, v_first, v_many, v_lengths, v_authors, v_sums, v_row, v_made, .int i_madeSize, v_base, .int i_baseSize, v_text, .int i_textSize, .int i_textSteps, v_other, .int i_otherSize, .ref hpc, .int (nI ((q + 1) + 1)), .int i_at, .int i_end, .int i_value])), (hpc, .inl (cC, 600, .inl (g2_10)))]) [0, 1] (by decide) rfl
    have hK9 := hK.sub (tys' := [(cC, .byte)]) [0] rfl
    exact W.vret hx hb hr (fun t ht hW => ⟨⟨(), rfl, trivial, ((q + 1) + 1), g2_10, (y_en2 (by omega) c_1 hu_11), by rw [ht]; exact hP9, va_K.moved hW.alike hK9, hD9⟩, hS.F ht⟩) hS.2.2 d_O_putNumber_35
set_option maxHeartbeats 4000000 in
set_option maxRecDepth 100000 in
theorem lo_run {p : Program} {l : Launch} {e : Env} {s : State} {m : MethodId} {args : Array Value} {below : List Frame} {meth : Method} {c : Code} {dC : Nat → ClassId} {dI : Nat → Nat → Nat} {Q : State → Prop} {H : Heap} {locs : List Loc} (h0 : Nat) (i_thrown : Int32) (i_down : Int32) (i_lasts : Int32) (i_documents : Int32) (v_gone : Value) (v_first : Value) (v_many : Value) (v_lengths : Value) (v_authors : Value) (v_sums : Value) (v_row : Value) (v_base : Value) (i_baseSize : Int32) (v_text : Value) (i_textSize : Int32) (i_textSteps : Int32) (v_other : Value) (i_otherSize : Int32) (v_piece : Value) (i_pieceSize : Int32) (i_at : Int32) (i_end : Int32) (i_value : Int32) (hbuf : Nat) (cB : ClassId) (k : Nat) (f : Nat → Int32) (L : List Int32) (hmade : Nat) (cM : ClassId) (k2 : Nat) (fo : Nat → Int32) (L2 : List Int32) (i : Nat) (j0 : Nat) (htx : tx L k f) (htx2 : tx L2 k2 fo) (hk : k ≤ 256) (hk2 : k2 ≤ 256) (hi : i ≤ k) (hj0 : j0 ≤ k2)
    (hx : p.tables.exec = Jvm.exec) (hb : c.code = prog_9_method_24_code) (hml : c.maxLocals = 4) (hown : s.vm.findClass R_O = some m.cls) (hw0 : ∀ w ∈ w0, w.before args s = true) (hN : nw_ok s) (hK : va_K (dC, dI) vwCl [(cB, .byte), (cM, .byte)] s) (hP : va_P (dC, dI) vwCl [(h0, .inr (7, [.int i_thrown, .int i_down, .int i_lasts, .ref hbuf, .int (nI k), .int i_documents, v_gone, v_first, v_many, v_lengths, v_authors, v_sums, v_row, .ref hmade, .int (nI k2), v_base, .int i_baseSize, v_text, .int i_textSize, .int i_textSteps, v_other, .int i_otherSize, v_piece, .int i_pieceSize, .int i_at, .int i_end, .int i_value])), (hbuf, .inl (cB, 256, .inl (f))), (hmade, .inl (cM, 256, .inl (fo)))] H)
    (kk : ∀ ls : Array Slot, lv_has ls 4 [(3, .int (nI (cpl (L.drop i) (L2.drop j0)))), (0, .ref h0), (1, .int (nI i)), (2, .int (nI j0))] → W p l e ({ frames := 0, cells := 0, slots := 0, locals := 0 } : Room) s m args below meth c H locs 0 0 Q (F0 m 47 ls [])) :
    ∀ (n j : Nat), j ≤ (k - i) → (k - i) < j + n → (j0 + j ≤ k2) → (∀ t, t < j → (L.drop i).getD t 0 = (L2.drop j0).getD t 0) → ∀ ls : Array Slot, lv_has ls 4 [(3, .int (nI j)), (0, .ref h0), (1, .int (nI i)), (2, .int (nI j0))] → W p l e ({ frames := 0, cells := 0, slots := 0, locals := 0 } : Room) s m args below meth c H locs 0 0 Q (F0 m 2 ls []) := by
  intro n
  induction n with
  | zero => intro j  h1 h2; exact absurd h2 (by omega)
  | succ n ih =>
    intro j  hj hn hf0 hf1 ls hl
    refine lv_iload_n hx hb d_O_run_2 rfl (lv_at hl 2 rfl) ?_
    refine lv_iload_n hx hb d_O_run_3 rfl (lv_at hl 0 rfl) ?_
    refine lv_iadd hx hb d_O_run_4 ?_
    refine lv_topi (fun x_1 ex_1 => ?_)
    obtain rfl : x_1 = (nI (i + j)) := by rw [ex_1]; exact nI_add i j
    clear ex_1
    refine lv_aload_n hx hb d_O_run_5 rfl (lv_at hl 1 rfl) ?_
    refine va_get (D := (dC, dI)) (ci := 7) (v := .int (nI k)) (C := R_O) (T := F_O) (N := 27) hx hb hw0 in_O hown hK hP 0 rfl rfl 4 (by decide) (hw0 (.fieldLink R_O 69 "TextKeeperModel" "size" "I") (List.mem_of_getElem? (i := 163) rfl)) (fun _ h9 => h9) rfl d_O_run_6 ?_
    refine lv_icmp_ge (tgt := 47) hx hb d_O_run_9 (by decide) (fun c_2 => ?_) (fun c_2 => ?_)
    · have e9 : (cpl (L.drop i) (L2.drop j0)) = j := cpl_is (by rw [List.length_drop, htx.1]; omega) (by rw [List.length_drop, htx2.1]; omega) hf1 (Or.inl (by have h9 := (nI_leI (by omega) (by omega)).mp c_2; rw [List.length_drop, htx.1]; omega))
      exact kk ls (by rw [e9]; exact (lv_sub hl [0, 1, 2, 3] rfl))
    · have hlt : i + j < k := (by rcases Nat.lt_or_ge (i + j) k with z | z; exact z; exact absurd (nI_le z (by omega)) c_2)
      refine lv_iload_n hx hb d_O_run_12 rfl (lv_at hl 3 rfl) ?_
      refine lv_iload_n hx hb d_O_run_13 rfl (lv_at hl 0 rfl) ?_
      refine lv_iadd hx hb d_O_run_14 ?_
      refine lv_topi (fun x_3 ex_3 => ?_)
      obtain rfl : x_3 = (nI (j0 + j)) := by rw [ex_3]; exact nI_add j0 j
      clear ex_3
      refine lv_aload_n hx hb d_O_run_15 rfl (lv_at hl 1 rfl) ?_
      refine va_get (D := (dC, dI)) (ci := 7) (v := .int (nI k2)) (C := R_O) (T := F_O) (N := 27) hx hb hw0 in_O hown hK hP 0 rfl rfl 14 (by decide) (hw0 (.fieldLink R_O 113 "TextKeeperModel" "madeSize" "I") (List.mem_of_getElem? (i := 164) rfl)) (fun _ h9 => h9) rfl d_O_run_16 ?_
      refine lv_icmp_ge (tgt := 47) hx hb d_O_run_19 (by decide) (fun c_4 => ?_) (fun c_4 => ?_)
      · have e9 : (cpl (L.drop i) (L2.drop j0)) = j := cpl_is (by rw [List.length_drop, htx.1]; omega) (by rw [List.length_drop, htx2.1]; omega) hf1 (Or.inr (Or.inl (by have h9 := (nI_leI (by omega) (by omega)).mp c_4; rw [List.length_drop, htx2.1]; omega)))
        exact kk ls (by rw [e9]; exact (lv_sub hl [0, 1, 2, 3] rfl))
      · have hlt2 : j0 + j < k2 := (by rcases Nat.lt_or_ge (j0 + j) k2 with z | z; exact z; exact absurd (nI_le z (by omega)) c_4)
        refine lv_aload_n hx hb d_O_run_22 rfl (lv_at hl 1 rfl) ?_
        refine va_get (D := (dC, dI)) (ci := 7) (v := .ref hbuf) (C := R_O) (T := F_O) (N := 27) hx hb hw0 in_O hown hK hP 0 rfl rfl 3 (by decide) (hw0 (.fieldLink R_O 13 "TextKeeperModel" "buffer" "[B") (List.mem_of_getElem? (i := 165) rfl)) (fun _ h9 => h9) rfl d_O_run_23 ?_
        refine lv_iload_n hx hb d_O_run_26 rfl (lv_at hl 2 rfl) ?_
        refine lv_iload_n hx hb d_O_run_27 rfl (lv_at hl 0 rfl) ?_
        refine lv_iadd hx hb d_O_run_28 ?_
        refine lv_topi (fun x_5 ex_5 => ?_)
        obtain rfl : x_5 = (nI (i + j)) := by rw [ex_5]; exact nI_add i j
        clear ex_5
        refine va_bald hx hb hK hP 1 0 rfl rfl (vp_in_nI (by omega) (by decide)) d_O_run_29 ?_
        refine lv_topi (fun x_6 ex_6 => ?_)
        refine lv_aload_n hx hb d_O_run_30 rfl (lv_at hl 1 rfl) ?_
        refine va_get (D := (dC, dI)) (ci := 7) (v := .ref hmade) (C := R_O) (T := F_O) (N := 27) hx hb hw0 in_O hown hK hP 0 rfl rfl 13 (by decide) (hw0 (.fieldLink R_O 41 "TextKeeperModel" "made" "[B") (List.mem_of_getElem? (i := 166) rfl)) (fun _ h9 => h9) rfl d_O_run_31 ?_
        refine lv_iload_n hx hb d_O_run_34 rfl (lv_at hl 3 rfl) ?_
        refine lv_iload_n hx hb d_O_run_35 rfl (lv_at hl 0 rfl) ?_
        refine lv_iadd hx hb d_O_run_36 ?_
        refine lv_topi (fun x_7 ex_7 => ?_)
        obtain rfl : x_7 = (nI (j0 + j)) := by rw [ex_7]; exact nI_add j0 j
        clear ex_7
        refine va_bald hx hb hK hP 2 1 rfl rfl (vp_in_nI (by omega) (by decide)) d_O_run_37 ?_
        refine lv_topi (fun x_8 ex_8 => ?_)
        refine lv_icmp_ne (tgt := 47) hx hb d_O_run_38 (by decide) (fun c_9 => ?_) (fun c_9 => ?_)
        · have e9 : (cpl (L.drop i) (L2.drop j0)) = j := cpl_is (by rw [List.length_drop, htx.1]; omega) (by rw [List.length_drop, htx2.1]; omega) hf1 (Or.inr (Or.inr (fun h9 => c_9 (by rw [getD_drop, getD_drop] at h9; rw [ex_6, ex_8, nI_clamp (by omega), nI_clamp (by omega), tx_at htx (by omega), tx_at htx2 (by omega)]; exact h9))))
          exact kk ls (by rw [e9]; exact (lv_sub hl [0, 1, 2, 3] rfl))
        · refine lv_iinc (v := nI (j + 1)) (lv' := [(3, .int (nI (j + 1))), (0, .ref h0), (1, .int (nI i)), (2, .int (nI j0))]) hx hb d_O_run_41 hl (k := 0) rfl (nI_1 j) (by decide) rfl (fun ls hl => ?_)
          refine lv_goto (tgt := 2) hx hb d_O_run_44 (by decide) ?_
          exact ih (j + 1) (by omega) (by omega) (by omega) (fun t ht => by rcases Nat.lt_or_ge t j with q | q; exact hf1 t q; obtain rfl : t = j := (by omega); have h9 := c_9; rw [ex_6, ex_8] at h9; rw [getD_drop, getD_drop]; rw [nI_clamp (by omega), nI_clamp (by omega), tx_at htx (by omega), tx_at htx2 (by omega)] at h9; exact h9) ls (lv_sub hl [0, 1, 2, 3] rfl)
set_option maxHeartbeats 4000000 in
set_option maxRecDepth 100000 in
theorem o_run (l : Launch) (dC : Nat → ClassId) (dI : Nat → Nat → Nat) (h0 : Nat) (i_thrown : Int32) (i_down : Int32) (i_lasts : Int32) (i_documents : Int32) (v_gone : Value) (v_first : Value) (v_many : Value) (v_lengths : Value) (v_authors : Value) (v_sums : Value) (v_row : Value) (v_base : Value) (i_baseSize : Int32) (v_text : Value) (i_textSize : Int32) (i_textSteps : Int32) (v_other : Value) (i_otherSize : Int32) (v_piece : Value) (i_pieceSize : Int32) (i_at : Int32) (i_end : Int32) (i_value : Int32) (hbuf : Nat) (cB : ClassId) (k : Nat) (f : Nat → Int32) (L : List Int32) (hmade : Nat) (cM : ClassId) (k2 : Nat) (fo : Nat → Int32) (L2 : List Int32) (i : Nat) (j0 : Nat) (htx : tx L k f) (htx2 : tx L2 k2 fo) (hk : k ≤ 256) (hk2 : k2 ≤ 256) (hi : i ≤ k) (hj0 : j0 ≤ k2) : Met l y_O_run k_O_run ({ frames := 0, cells := 0, slots := 0, locals := 0 } : Room) (va_Pc [.ref h0, .int (nI i), .int (nI j0)] (pc_R (dC, dI) [(h0, .inr (7, [.int i_thrown, .int i_down, .int i_lasts, .ref hbuf, .int (nI k), .int i_documents, v_gone, v_first, v_many, v_lengths, v_authors, v_sums, v_row, .ref hmade, .int (nI k2), v_base, .int i_baseSize, v_text, .int i_textSize, .int i_textSteps, v_other, .int i_otherSize, v_piece, .int i_pieceSize, .int i_at, .int i_end, .int i_value])), (hbuf, .inl (cB, 256, .inl (f))), (hmade, .inl (cM, 256, .inl (fo)))] [(cB, .byte), (cM, .byte)])) (vp_Si (fun r => r = nI (cpl (L.drop i) (L2.drop j0)))) 0 0 (fun _ => False) := by
  refine Met.ofW (cc := prog_9_method_24_code) (maxL := 4) (ret := (some .int)) (by decide) rfl ?_
  intro p e s m args below meth c s₁ B hml hv
  obtain ⟨rfl, hP, hK, hN⟩ := hv
  have hx := B.exec
  have hb := B.bytes
  have hr := B.returns
  have hts := atoms_spec (ws := k_O_run) B.pre
  have hw0 : ∀ w ∈ w0, w.before _ s = true := fun w h => hts w (List.mem_cons_of_mem _ h)
  have hown : s.vm.findClass R_O = some m.cls := findClass_of_methodNamed B.named
  have hlocks := B.notSynchronized
  have hP : va_P (dC, dI) vwCl [(h0, .inr (7, [.int i_thrown, .int i_down, .int i_lasts, .ref hbuf, .int (nI k), .int i_documents, v_gone, v_first, v_many, v_lengths, v_authors, v_sums, v_row, .ref hmade, .int (nI k2), v_base, .int i_baseSize, v_text, .int i_textSize, .int i_textSteps, v_other, .int i_otherSize, v_piece, .int i_pieceSize, .int i_at, .int i_end, .int i_value])), (hbuf, .inl (cB, 256, .inl (f))), (hmade, .inl (cM, 256, .inl (fo)))] s.heap := hP
  have hl := lv_entry ([.ref h0, .int (nI i), .int (nI j0)]) (n := 4) (Nat.le_of_ble_eq_true rfl)
  rw [lg_entry_eq]
  generalize (lg_sl ([.ref h0, .int (nI i), .int (nI j0)]) ++ List.replicate (4 - (lg_sl ([.ref h0, .int (nI i), .int (nI j0)])).length) Slot.unset).toArray = ls at hl ⊢
  have hl : lv_has ls 4 [(0, .ref h0), (1, .int (nI i)), (2, .int (nI j0))] := hl
  refine lv_iconst (v := 0) hx hb d_O_run_0 (by decide) ?_
  refine lv_istore_n (lv' := [(3, .int 0), (0, .ref h0), (1, .int (nI i)), (2, .int (nI j0))]) hx hb d_O_run_1 rfl hl (by decide) rfl (fun ls hl => ?_)
  refine lo_run h0 i_thrown i_down i_lasts i_documents v_gone v_first v_many v_lengths v_authors v_sums v_row v_base i_baseSize v_text i_textSize i_textSteps v_other i_otherSize v_piece i_pieceSize i_at i_end i_value hbuf cB k f L hmade cM k2 fo L2 i j0 htx htx2 hk hk2 hi hj0 hx hb hml hown hw0 hN hK hP (fun ls hl => ?_) (k - i + 1) 0 (by omega) (by omega) (by omega) (fun t ht => absurd ht (Nat.not_lt_zero t)) ls (lv_sub hl [0, 1, 2, 3] rfl)
  refine lv_iload_n hx hb d_O_run_47 rfl (lv_at hl 0 rfl) ?_
  exact W.iret (v := (nI (cpl (L.drop i) (L2.drop j0)))) hx hb hr (fun t ht hW => ⟨(nI (cpl (L.drop i) (L2.drop j0))), rfl, rfl, ht⟩) (fun q h => by cases h) d_O_run_48
set_option maxHeartbeats 4000000 in
set_option maxRecDepth 100000 in
theorem lo_ins {p : Program} {l : Launch} {e : Env} {s : State} {m : MethodId} {args : Array Value} {below : List Frame} {meth : Method} {c : Code} {dC : Nat → ClassId} {dI : Nat → Nat → Nat} {A : Nat → Prop} {Q : State → Prop} (h0 : Nat) (i_thrown : Int32) (i_down : Int32) (i_lasts : Int32) (i_size : Int32) (i_documents : Int32) (v_gone : Value) (v_first : Value) (v_many : Value) (v_lengths : Value) (v_authors : Value) (v_sums : Value) (v_row : Value) (v_made : Value) (i_madeSize : Int32) (v_base : Value) (i_baseSize : Int32) (v_text : Value) (i_textSize : Int32) (i_textSteps : Int32) (v_other : Value) (i_otherSize : Int32) (i_at : Int32) (i_end : Int32) (i_value : Int32) (hpc : Nat) (cC : ClassId) (q : Nat) (hbuf : Nat) (cB : ClassId) (k : Nat) (f : Nat → Int32) (L : List Int32) (a : Nat) (b : Nat) (P : List Int32) (htx : tx L k f) (hk : k ≤ 256) (hb9 : b ≤ k) (hq : q + (b - a) ≤ 600)
    (hx : p.tables.exec = Jvm.exec) (hb : c.code = prog_9_method_23_code) (hml : c.maxLocals = 4) (hown : s.vm.findClass R_O = some m.cls) (hw0 : ∀ w ∈ w0, w.before args s = true) (hN : nw_ok s) (hK : va_K (dC, dI) vwCl [(cC, .byte), (cB, .byte)] s) (hA : ∀ q : Nat, s.heap.size ≤ q → A q)
    (kk : ∀ (g : Nat → Int32), (a ≤ b) → (tx (P ++ (L.drop a).take (b - a)) (q + (b - a)) g) → ∀ (H : Heap) (locs : List Loc), va_P (dC, dI) vwCl [(h0, .inr (7, [.int i_thrown, .int i_down, .int i_lasts, .ref hbuf, .int i_size, .int i_documents, v_gone, v_first, v_many, v_lengths, v_authors, v_sums, v_row, v_made, .int i_madeSize, v_base, .int i_baseSize, v_text, .int i_textSize, .int i_textSteps, v_other, .int i_otherSize, .ref hpc, .int (nI (q + (b - a))), .int i_at, .int i_end, .int i_value])), (hpc, .inl (cC, 600, .inl (g))), (hbuf, .inl (cB, 256, .inl (f)))] H → va_D A [(h0, .inr (7, [.int i_thrown, .int i_down, .int i_lasts, .ref hbuf, .int i_size, .int i_documents, v_gone, v_first, v_many, v_lengths, v_authors, v_sums, v_row, v_made, .int i_madeSize, v_base, .int i_baseSize, v_text, .int i_textSize, .int i_textSteps, v_other, .int i_otherSize, .ref hpc, .int (nI (q + (b - a))), .int i_at, .int i_end, .int i_value])), (hpc, .inl (cC, 600, .inl (g))), (hbuf, .inl (cB, 256, .inl (f)))] → va_S A s.heap H locs → ∀ ls : Array Slot, lv_has ls 4 [(3, .int (nI b)), (0, .ref h0), (1, .int (nI a)), (2, .int (nI b))] → W p l e ({ frames := 2, cells := 0, slots := 0, locals := 43 } : Room) s m args below meth c H locs 0 0 Q (F0 m 37 ls [])) :
    ∀ (n j : Nat), j ≤ b → b < j + n → ∀ (g : Nat → Int32), (a ≤ j) → (tx (P ++ (L.drop a).take (j - a)) (q + (j - a)) g) → ∀ (H : Heap) (locs : List Loc), va_P (dC, dI) vwCl [(h0, .inr (7, [.int i_thrown, .int i_down, .int i_lasts, .ref hbuf, .int i_size, .int i_documents, v_gone, v_first, v_many, v_lengths, v_authors, v_sums, v_row, v_made, .int i_madeSize, v_base, .int i_baseSize, v_text, .int i_textSize, .int i_textSteps, v_other, .int i_otherSize, .ref hpc, .int (nI (q + (j - a))), .int i_at, .int i_end, .int i_value])), (hpc, .inl (cC, 600, .inl (g))), (hbuf, .inl (cB, 256, .inl (f)))] H → va_D A [(h0, .inr (7, [.int i_thrown, .int i_down, .int i_lasts, .ref hbuf, .int i_size, .int i_documents, v_gone, v_first, v_many, v_lengths, v_authors, v_sums, v_row, v_made, .int i_madeSize, v_base, .int i_baseSize, v_text, .int i_textSize, .int i_textSteps, v_other, .int i_otherSize, .ref hpc, .int (nI (q + (j - a))), .int i_at, .int i_end, .int i_value])), (hpc, .inl (cC, 600, .inl (g))), (hbuf, .inl (cB, 256, .inl (f)))] → va_S A s.heap H locs → ∀ ls : Array Slot, lv_has ls 4 [(3, .int (nI j)), (0, .ref h0), (1, .int (nI a)), (2, .int (nI b))] → W p l e ({ frames := 2, cells := 0, slots := 0, locals := 43 } : Room) s m args below meth c H locs 0 0 Q (F0 m 16 ls []) := by
  intro n
  induction n with
  | zero => intro j h1 h2; exact absurd h2 (by omega)
  | succ n ih =>
    intro j hj hn g hf0 hf1 H locs hP hD hS ls hl
    refine lv_iload_n hx hb d_O_inserts_16 rfl (lv_at hl 0 rfl) ?_
    refine lv_iload_n hx hb d_O_inserts_17 rfl (lv_at hl 3 rfl) ?_
    refine lv_icmp_ge (tgt := 37) hx hb d_O_inserts_18 (by decide) (fun c_1 => ?_) (fun c_1 => ?_)
    · obtain rfl : j = b := x_geN (by omega) hj c_1
      exact kk g hf0 hf1 _ _ hP hD hS ls (lv_sub hl [0, 1, 2, 3] rfl)
    · have hlt : j < b := x_ltN (by omega) hj c_1
      refine lv_aload_n hx hb d_O_inserts_21 rfl (lv_at hl 1 rfl) ?_
      refine lv_aload_n hx hb d_O_inserts_22 rfl (lv_at hl 1 rfl) ?_
      refine va_get (D := (dC, dI)) (ci := 7) (v := .ref hbuf) (C := R_O) (T := F_O) (N := 27) hx hb hw0 in_O hown hK hP 0 rfl rfl 3 (by decide) (hw0 (.fieldLink R_O 13 "TextKeeperModel" "buffer" "[B") (List.mem_of_getElem? (i := 165) rfl)) (fun _ h9 => h9) rfl d_O_inserts_23 ?_
      refine lv_iload_n hx hb d_O_inserts_26 rfl (lv_at hl 0 rfl) ?_
      refine va_bald hx hb hK hP 2 1 rfl rfl (vp_in_nI (by omega) (by decide)) d_O_inserts_27 ?_
      refine lv_topi (fun x_2 ex_2 => ?_)
      have hPc := hP.sub (ws' := [(h0, .inr (7, [.int i_thrown, .int i_down, .int i_lasts, .ref hbuf, .int i_size, .int i_documents, v_gone, v_first, v_many, v_lengths, v_authors, v_sums, v_row, v_made, .int i_madeSize, v_base, .int i_baseSize, v_text, .int i_textSize, .int i_textSteps, v_other, .int i_otherSize, .ref hpc, .int (nI (q + (j - a))), .int i_at, .int i_end, .int i_value])), (hpc, .inl (cC, 600, .inl ((g))))]) [0, 1] rfl
      have hKc := hK.sub (tys' := [(cC, .byte)]) [0] rfl
      have hDc := hD.sub (ws' := [(h0, .inr (7, [.int i_thrown, .int i_down, .int i_lasts, .ref hbuf, .int i_size, .int i_documents, v_gone, v_first, v_many, v_lengths, v_authors, v_sums, v_row, v_made, .int i_madeSize, v_base, .int i_baseSize, v_text, .int i_textSize, .int i_textSteps, v_other, .int i_otherSize, .ref hpc, .int (nI (q + (j - a))), .int i_at, .int i_end, .int i_value])), (hpc, .inl (cC, 600, .inl ((g))))]) [0, 1] (by decide) rfl
      have hFc := va_free (wc := [(h0, .inr (7, [.int i_thrown, .int i_down, .int i_lasts, .ref hbuf, .int i_size, .int i_documents, v_gone, v_first, v_many, v_lengths, v_authors, v_sums, v_row, v_made, .int i_madeSize, v_base, .int i_baseSize, v_text, .int i_textSize, .int i_textSteps, v_other, .int i_otherSize, .ref hpc, .int (nI (q + (j - a))), .int i_at, .int i_end, .int i_value])), (hpc, .inl (cC, 600, .inl ((g))))]) hD hS hA [0, 1] rfl
      refine va_callv (va_runV (As := [.int x_2]) (rest := []) ⟨hx, hb, hml, hown, hw0⟩ (o_put l dC dI H.size h0 i_thrown i_down i_lasts (.ref hbuf) i_size i_documents v_gone v_first v_many v_lengths v_authors v_sums v_row v_made i_madeSize v_base i_baseSize v_text i_textSize i_textSteps v_other i_otherSize i_at i_end i_value hpc cC (q + (j - a)) (g) _ x_2 (by first | assumption | decide | omega) (by first | assumption | decide | omega)) (cwV 1 hw0 (gd_V 158 159 160 161 162 rfl rfl rfl rfl rfl) rfl rfl rfl (by decide +kernel) ⟨by decide +kernel, by decide +kernel⟩) (prV_E hPc hKc hDc hN (va_recv hKc hPc (ci := 7) (q0 := 0) rfl rfl)) rfl rfl hl.1 rfl (lv_room (Nat.le_of_ble_eq_true rfl)) d_O_inserts_28 ⟨by decide +kernel, by decide +kernel⟩) hS (fun q _ h => hFc q h) hFc (fun u t H1 locs ht hvm hw hB hz1 hk1 hS => ?_)
      obtain ⟨g2_3, hu_4, hP1, hK1, hD1⟩ := hB
      rw [ht] at hP1
      have hK1 := va_K.moved hvm.symm hK1
      try dsimp only at hw
      obtain ⟨hP, hD⟩ := va_join (wr := [(hbuf, .inl (cB, 256, .inl (f)))]) (w1 := [(h0, .inr (7, [.int i_thrown, .int i_down, .int i_lasts, .ref hbuf, .int i_size, .int i_documents, v_gone, v_first, v_many, v_lengths, v_authors, v_sums, v_row, v_made, .int i_madeSize, v_base, .int i_baseSize, v_text, .int i_textSize, .int i_textSteps, v_other, .int i_otherSize, .ref hpc, .int (nI ((q + (j - a)) + 1)), .int i_at, .int i_end, .int i_value])), (hpc, .inl (cC, 600, .inl (g2_3)))]) hP hD [0, 1] [2] rfl rfl (by decide) (by decide) hk1 hFc hP1 hD1
      generalize H1 = H at hP hS ⊢
      replace hP : va_P (dC, dI) vwCl [(hbuf, .inl (cB, 256, .inl (f))), (h0, .inr (7, [.int i_thrown, .int i_down, .int i_lasts, .ref hbuf, .int i_size, .int i_documents, v_gone, v_first, v_many, v_lengths, v_authors, v_sums, v_row, v_made, .int i_madeSize, v_base, .int i_baseSize, v_text, .int i_textSize, .int i_textSteps, v_other, .int i_otherSize, .ref hpc, .int (nI ((q + (j - a)) + 1)), .int i_at, .int i_end, .int i_value])), (hpc, .inl (cC, 600, .inl (g2_3)))] H := hP
      replace hD : va_D A [(hbuf, .inl (cB, 256, .inl (f))), (h0, .inr (7, [.int i_thrown, .int i_down, .int i_lasts, .ref hbuf, .int i_size, .int i_documents, v_gone, v_first, v_many, v_lengths, v_authors, v_sums, v_row, v_made, .int i_madeSize, v_base, .int i_baseSize, v_text, .int i_textSize, .int i_textSteps, v_other, .int i_otherSize, .ref hpc, .int (nI ((q + (j - a)) + 1)), .int i_at, .int i_end, .int i_value])), (hpc, .inl (cC, 600, .inl (g2_3)))] := hD
      replace hK : va_K (dC, dI) vwCl [(cC, .byte), (cB, .byte)] s := hK
      refine lv_iinc (v := nI (j + 1)) (lv' := [(3, .int (nI (j + 1))), (0, .ref h0), (1, .int (nI a)), (2, .int (nI b))]) hx hb d_O_inserts_31 hl (k := 0) rfl (nI_1 j) (by decide) rfl (fun ls hl => ?_)
      refine lv_goto (tgt := 16) hx hb d_O_inserts_34 (by decide) ?_
      have eq9 : q + (j - a) + 1 = q + (j + 1 - a) := by omega
      rw [eq9] at hP hD hu_4
      exact ih (j + 1) hlt (by omega) g2_3 (by omega) (y_ins htx hk hf0 (by omega) ex_2 hu_4) _ _ (hP.sub (ws' := [(h0, .inr (7, [.int i_thrown, .int i_down, .int i_lasts, .ref hbuf, .int i_size, .int i_documents, v_gone, v_first, v_many, v_lengths, v_authors, v_sums, v_row, v_made, .int i_madeSize, v_base, .int i_baseSize, v_text, .int i_textSize, .int i_textSteps, v_other, .int i_otherSize, .ref hpc, .int (nI (q + ((j + 1) - a))), .int i_at, .int i_end, .int i_value])), (hpc, .inl (cC, 600, .inl (g2_3))), (hbuf, .inl (cB, 256, .inl (f)))]) [1, 2, 0] rfl) (hD.sub (ws' := [(h0, .inr (7, [.int i_thrown, .int i_down, .int i_lasts, .ref hbuf, .int i_size, .int i_documents, v_gone, v_first, v_many, v_lengths, v_authors, v_sums, v_row, v_made, .int i_madeSize, v_base, .int i_baseSize, v_text, .int i_textSize, .int i_textSteps, v_other, .int i_otherSize, .ref hpc, .int (nI (q + ((j + 1) - a))), .int i_at, .int i_end, .int i_value])), (hpc, .inl (cC, 600, .inl (g2_3))), (hbuf, .inl (cB, 256, .inl (f)))]) [1, 2, 0] (by decide) rfl) hS ls (lv_sub hl [0, 1, 2, 3] rfl)
set_option maxHeartbeats 4000000 in
set_option maxRecDepth 100000 in
theorem o_inserts (l : Launch) (dC : Nat → ClassId) (dI : Nat → Nat → Nat) (sz : Nat) (h0 : Nat) (i_thrown : Int32) (i_down : Int32) (i_lasts : Int32) (i_size : Int32) (i_documents : Int32) (v_gone : Value) (v_first : Value) (v_many : Value) (v_lengths : Value) (v_authors : Value) (v_sums : Value) (v_row : Value) (v_made : Value) (i_madeSize : Int32) (v_base : Value) (i_baseSize : Int32) (v_text : Value) (i_textSize : Int32) (i_textSteps : Int32) (v_other : Value) (i_otherSize : Int32) (i_at : Int32) (i_end : Int32) (i_value : Int32) (hpc : Nat) (cC : ClassId) (q : Nat) (g : Nat → Int32) (P : List Int32) (hbuf : Nat) (cB : ClassId) (k : Nat) (f : Nat → Int32) (L : List Int32) (a : Nat) (b : Nat) (hp : tx P q g) (htx : tx L k f) (hk : k ≤ 256) (ha9 : a ≤ k) (hb9 : b ≤ k) (hq : a < b → q + 2 + (b - a) ≤ 600) : Met l y_O_inserts k_O_inserts ({ frames := 2, cells := 0, slots := 0, locals := 43 } : Room) (va_Pc [.ref h0, .int (nI a), .int (nI b)] (pc_E (dC, dI) [(h0, .inr (7, [.int i_thrown, .int i_down, .int i_lasts, .ref hbuf, .int i_size, .int i_documents, v_gone, v_first, v_many, v_lengths, v_authors, v_sums, v_row, v_made, .int i_madeSize, v_base, .int i_baseSize, v_text, .int i_textSize, .int i_textSteps, v_other, .int i_otherSize, .ref hpc, .int (nI q), .int i_at, .int i_end, .int i_value])), (hpc, .inl (cC, 600, .inl (g))), (hbuf, .inl (cB, 256, .inl (f)))] [(cC, .byte), (cB, .byte)] sz)) (va_Qv (fun (_ : Unit) => True) (fun (_ : Unit) t => ∃ (q2 : Nat) (g2 : Nat → Int32), (q2 = q + (insE L a b).length ∧ tx (P ++ insE L a b) q2 g2) ∧ at_E (dC, dI) (va_A [(h0, .inr (7, [.int i_thrown, .int i_down, .int i_lasts, .ref hbuf, .int i_size, .int i_documents, v_gone, v_first, v_many, v_lengths, v_authors, v_sums, v_row, v_made, .int i_madeSize, v_base, .int i_baseSize, v_text, .int i_textSize, .int i_textSteps, v_other, .int i_otherSize, .ref hpc, .int (nI q), .int i_at, .int i_end, .int i_value])), (hpc, .inl (cC, 600, .inl (g))), (hbuf, .inl (cB, 256, .inl (f)))] sz) [(h0, .inr (7, [.int i_thrown, .int i_down, .int i_lasts, .ref hbuf, .int i_size, .int i_documents, v_gone, v_first, v_many, v_lengths, v_authors, v_sums, v_row, v_made, .int i_madeSize, v_base, .int i_baseSize, v_text, .int i_textSize, .int i_textSteps, v_other, .int i_otherSize, .ref hpc, .int (nI q2), .int i_at, .int i_end, .int i_value])), (hpc, .inl (cC, 600, .inl (g2))), (hbuf, .inl (cB, 256, .inl (f)))] [(cC, .byte), (cB, .byte)] t) (va_A [(h0, .inr (7, [.int i_thrown, .int i_down, .int i_lasts, .ref hbuf, .int i_size, .int i_documents, v_gone, v_first, v_many, v_lengths, v_authors, v_sums, v_row, v_made, .int i_madeSize, v_base, .int i_baseSize, v_text, .int i_textSize, .int i_textSteps, v_other, .int i_otherSize, .ref hpc, .int (nI q), .int i_at, .int i_end, .int i_value])), (hpc, .inl (cC, 600, .inl (g))), (hbuf, .inl (cB, 256, .inl (f)))] sz)) 0 0 (va_A [(h0, .inr (7, [.int i_thrown, .int i_down, .int i_lasts, .ref hbuf, .int i_size, .int i_documents, v_gone, v_first, v_many, v_lengths, v_authors, v_sums, v_row, v_made, .int i_madeSize, v_base, .int i_baseSize, v_text, .int i_textSize, .int i_textSteps, v_other, .int i_otherSize, .ref hpc, .int (nI q), .int i_at, .int i_end, .int i_value])), (hpc, .inl (cC, 600, .inl (g))), (hbuf, .inl (cB, 256, .inl (f)))] sz) := by
  refine Met.ofW (cc := prog_9_method_23_code) (maxL := 4) (ret := none) (by decide) rfl ?_
  intro p e s m args below meth c s₁ B hml hv
  obtain ⟨rfl, hsz, hP, hK, hD0, hN⟩ := hv
  have hx := B.exec
  have hb := B.bytes
  have hr := B.returns
  have hts := atoms_spec (ws := k_O_inserts) B.pre
  have hw0 : ∀ w ∈ w0, w.before _ s = true := fun w h => hts w (List.mem_cons_of_mem _ h)
  have hown : s.vm.findClass R_O = some m.cls := findClass_of_methodNamed B.named
  have hlocks := B.notSynchronized
  subst hsz
  have hD := hD0.self (sz := s.heap.size)
  generalize hAe : va_A [(h0, .inr (7, [.int i_thrown, .int i_down, .int i_lasts, .ref hbuf, .int i_size, .int i_documents, v_gone, v_first, v_many, v_lengths, v_authors, v_sums, v_row, v_made, .int i_madeSize, v_base, .int i_baseSize, v_text, .int i_textSize, .int i_textSteps, v_other, .int i_otherSize, .ref hpc, .int (nI q), .int i_at, .int i_end, .int i_value])), (hpc, .inl (cC, 600, .inl (g))), (hbuf, .inl (cB, 256, .inl (f)))] s.heap.size = A at hD ⊢
  have hA : ∀ q : Nat, s.heap.size ≤ q → A q := fun q h => by rw [← hAe]; exact Or.inr h
  have hS : va_S A s.heap s.heap [] := va_S.rf
  have hP : va_P (dC, dI) vwCl [(h0, .inr (7, [.int i_thrown, .int i_down, .int i_lasts, .ref hbuf, .int i_size, .int i_documents, v_gone, v_first, v_many, v_lengths, v_authors, v_sums, v_row, v_made, .int i_madeSize, v_base, .int i_baseSize, v_text, .int i_textSize, .int i_textSteps, v_other, .int i_otherSize, .ref hpc, .int (nI q), .int i_at, .int i_end, .int i_value])), (hpc, .inl (cC, 600, .inl (g))), (hbuf, .inl (cB, 256, .inl (f)))] s.heap := hP
  have hl := lv_entry ([.ref h0, .int (nI a), .int (nI b)]) (n := 4) (Nat.le_of_ble_eq_true rfl)
  rw [lg_entry_eq]
  generalize (lg_sl ([.ref h0, .int (nI a), .int (nI b)]) ++ List.replicate (4 - (lg_sl ([.ref h0, .int (nI a), .int (nI b)])).length) Slot.unset).toArray = ls at hl ⊢
  have hl : lv_has ls 4 [(0, .ref h0), (1, .int (nI a)), (2, .int (nI b))] := hl
  refine lv_iload_n hx hb d_O_inserts_0 rfl (lv_at hl 1 rfl) ?_
  refine lv_iload_n hx hb d_O_inserts_1 rfl (lv_at hl 2 rfl) ?_
  refine lv_icmp_ge (tgt := 37) hx hb d_O_inserts_2 (by decide) (fun c_1 => ?_) (fun c_1 => ?_)
  · have h9 := hk
    have hP9 := hP.sub (ws' := [(h0, .inr (7, [.int i_thrown, .int i_down, .int i_lasts, .ref hbuf, .int i_size, .int i_documents, v_gone, v_first, v_many, v_lengths, v_authors, v_sums, v_row, v_made, .int i_madeSize, v_base, .int i_baseSize, v_text, .int i_textSize, .int i_textSteps, v_other, .int i_otherSize, .ref hpc, .int (nI q), .int i_at, .int i_end, .int i_value])), (hpc, .inl (cC, 600, .inl (g))), (hbuf, .inl (cB, 256, .inl (f)))]) [0, 1, 2] rfl
    have hD9 := hD.sub (ws' := [(h0, .inr (7, [.int i_thrown, .int i_down, .int i_lasts, .ref hbuf, .int i_size, .int i_documents, v_gone, v_first, v_many, v_lengths, v_authors, v_sums, v_row, v_made, .int i_madeSize, v_base, .int i_baseSize, v_text, .int i_textSize, .int i_textSteps, v_other, .int i_otherSize, .ref hpc, .int (nI q), .int i_at, .int i_end, .int i_value])), (hpc, .inl (cC, 600, .inl (g))), (hbuf, .inl (cB, 256, .inl (f)))]) [0, 1, 2] (by decide) rfl
    have hK9 := hK.sub (tys' := [(cC, .byte), (cB, .byte)]) [0, 1] rfl
    exact W.vret hx hb hr (fun t ht hW => ⟨⟨(), rfl, trivial, q, g, (y_insF c_1 (by omega) (by omega) hp), by rw [ht]; exact hP9, va_K.moved hW.alike hK9, hD9⟩, hS.F ht⟩) hS.2.2 d_O_inserts_37
  · have hab : a < b := (by rcases Nat.lt_or_ge a b with z | z; exact z; exact absurd (nI_le z (by omega)) c_1); have hq8 := hq hab; have hd9 := dgt_le (2 * (b - a))
    refine lv_aload_n hx hb d_O_inserts_5 rfl (lv_at hl 0 rfl) ?_
    refine lv_iconst (v := 2) hx hb d_O_inserts_6 (by decide) ?_
    refine lv_iload_n hx hb d_O_inserts_7 rfl (lv_at hl 2 rfl) ?_
    refine lv_iload_n hx hb d_O_inserts_8 rfl (lv_at hl 1 rfl) ?_
    refine lv_isub hx hb d_O_inserts_9 ?_
    refine lv_topi (fun x_2 ex_2 => ?_)
    obtain rfl : x_2 = (nI (b - a)) := by rw [ex_2]; exact pk_sub (by omega)
    clear ex_2
    refine lv_imul hx hb d_O_inserts_10 ?_
    refine lv_topi (fun x_3 ex_3 => ?_)
    obtain rfl : x_3 = (nI (2 * (b - a))) := by rw [ex_3]; exact (show nI 2 * nI (b - a) = nI (2 * (b - a)) from pk_mul 2 (b - a))
    clear ex_3
    have hPc := hP.sub (ws' := [(h0, .inr (7, [.int i_thrown, .int i_down, .int i_lasts, .ref hbuf, .int i_size, .int i_documents, v_gone, v_first, v_many, v_lengths, v_authors, v_sums, v_row, v_made, .int i_madeSize, v_base, .int i_baseSize, v_text, .int i_textSize, .int i_textSteps, v_other, .int i_otherSize, .ref hpc, .int (nI q), .int i_at, .int i_end, .int i_value])), (hpc, .inl (cC, 600, .inl ((g))))]) [0, 1] rfl
    have hKc := hK.sub (tys' := [(cC, .byte)]) [0] rfl
    have hDc := hD.sub (ws' := [(h0, .inr (7, [.int i_thrown, .int i_down, .int i_lasts, .ref hbuf, .int i_size, .int i_documents, v_gone, v_first, v_many, v_lengths, v_authors, v_sums, v_row, v_made, .int i_madeSize, v_base, .int i_baseSize, v_text, .int i_textSize, .int i_textSteps, v_other, .int i_otherSize, .ref hpc, .int (nI q), .int i_at, .int i_end, .int i_value])), (hpc, .inl (cC, 600, .inl ((g))))]) [0, 1] (by decide) rfl
    have hFc := va_free (wc := [(h0, .inr (7, [.int i_thrown, .int i_down, .int i_lasts, .ref hbuf, .int i_size, .int i_documents, v_gone, v_first, v_many, v_lengths, v_authors, v_sums, v_row, v_made, .int i_madeSize, v_base, .int i_baseSize, v_text, .int i_textSize, .int i_textSteps, v_other, .int i_otherSize, .ref hpc, .int (nI q), .int i_at, .int i_end, .int i_value])), (hpc, .inl (cC, 600, .inl ((g))))]) hD hS hA [0, 1] rfl
    refine va_callv (va_runV (As := [.int (nI (2 * (b - a)))]) (rest := []) ⟨hx, hb, hml, hown, hw0⟩ (o_putNumber l dC dI s.heap.size h0 i_thrown i_down i_lasts (.ref hbuf) i_size i_documents v_gone v_first v_many v_lengths v_authors v_sums v_row v_made i_madeSize v_base i_baseSize v_text i_textSize i_textSteps v_other i_otherSize i_at i_end i_value hpc cC q (g) _ (2 * (b - a)) (by first | assumption | decide | omega) (by first | assumption | decide | omega) (by first | assumption | decide | omega)) (cwV 1 hw0 (gd_V 167 168 169 161 170 rfl rfl rfl rfl rfl) rfl rfl rfl (by decide +kernel) ⟨by decide +kernel, by decide +kernel⟩) (prV_E hPc hKc hDc hN (va_recv hKc hPc (ci := 7) (q0 := 0) rfl rfl)) rfl rfl hl.1 rfl (lv_room (Nat.le_of_ble_eq_true rfl)) d_O_inserts_11 ⟨by decide +kernel, by decide +kernel⟩) hS (fun q _ h => hFc q h) hFc (fun u t H1 locs ht hvm hw hB hz1 hk1 hS => ?_)
    obtain ⟨q2_4, g2_5, ⟨hu_6_0, hu_6_1⟩, hP1, hK1, hD1⟩ := hB
    rw [ht] at hP1
    have hK1 := va_K.moved hvm.symm hK1
    try dsimp only at hw
    obtain ⟨hP, hD⟩ := va_join (wr := [(hbuf, .inl (cB, 256, .inl (f)))]) (w1 := [(h0, .inr (7, [.int i_thrown, .int i_down, .int i_lasts, .ref hbuf, .int i_size, .int i_documents, v_gone, v_first, v_many, v_lengths, v_authors, v_sums, v_row, v_made, .int i_madeSize, v_base, .int i_baseSize, v_text, .int i_textSize, .int i_textSteps, v_other, .int i_otherSize, .ref hpc, .int (nI q2_4), .int i_at, .int i_end, .int i_value])), (hpc, .inl (cC, 600, .inl (g2_5)))]) hP hD [0, 1] [2] rfl rfl (by decide) (by decide) hk1 hFc hP1 hD1
    generalize H1 = H at hP hS ⊢
    replace hP : va_P (dC, dI) vwCl [(hbuf, .inl (cB, 256, .inl (f))), (h0, .inr (7, [.int i_thrown, .int i_down, .int i_lasts, .ref hbuf, .int i_size, .int i_documents, v_gone, v_first, v_many, v_lengths, v_authors, v_sums, v_row, v_made, .int i_madeSize, v_base, .int i_baseSize, v_text, .int i_textSize, .int i_textSteps, v_other, .int i_otherSize, .ref hpc, .int (nI q2_4), .int i_at, .int i_end, .int i_value])), (hpc, .inl (cC, 600, .inl (g2_5)))] H := hP
    replace hD : va_D A [(hbuf, .inl (cB, 256, .inl (f))), (h0, .inr (7, [.int i_thrown, .int i_down, .int i_lasts, .ref hbuf, .int i_size, .int i_documents, v_gone, v_first, v_many, v_lengths, v_authors, v_sums, v_row, v_made, .int i_madeSize, v_base, .int i_baseSize, v_text, .int i_textSize, .int i_textSteps, v_other, .int i_otherSize, .ref hpc, .int (nI q2_4), .int i_at, .int i_end, .int i_value])), (hpc, .inl (cC, 600, .inl (g2_5)))] := hD
    replace hK : va_K (dC, dI) vwCl [(cC, .byte), (cB, .byte)] s := hK
    refine lv_iload_n hx hb d_O_inserts_14 rfl (lv_at hl 1 rfl) ?_
    refine lv_istore_n (lv' := [(3, .int (nI a)), (0, .ref h0), (1, .int (nI a)), (2, .int (nI b))]) hx hb d_O_inserts_15 rfl hl (by decide) rfl (fun ls hl => ?_)
    have e0 : q2_4 + (a - a) = q2_4 := by omega
    have hu9 : tx ((P ++ encN (2 * (b - a))) ++ (L.drop a).take (a - a)) (q2_4 + (a - a)) g2_5 := by rw [e0, Nat.sub_self, List.take_zero, List.append_nil]; exact hu_6_1
    rw [← e0] at hP hD
    refine lo_ins h0 i_thrown i_down i_lasts i_size i_documents v_gone v_first v_many v_lengths v_authors v_sums v_row v_made i_madeSize v_base i_baseSize v_text i_textSize i_textSteps v_other i_otherSize i_at i_end i_value hpc cC q2_4 hbuf cB k f L a b (P ++ encN (2 * (b - a))) htx hk hb9 (by have h8 := dgt_le (2 * (b - a)); omega) hx hb hml hown hw0 hN (hK.sub (tys' := [(cC, .byte), (cB, .byte)]) [0, 1] rfl) hA (fun g9 hg8 hg9 H locs hP hD hS ls hl => ?_) (b + 1) a (by omega) (by omega) g2_5 (Nat.le_refl a) hu9 _ _ (hP.sub (ws' := [(h0, .inr (7, [.int i_thrown, .int i_down, .int i_lasts, .ref hbuf, .int i_size, .int i_documents, v_gone, v_first, v_many, v_lengths, v_authors, v_sums, v_row, v_made, .int i_madeSize, v_base, .int i_baseSize, v_text, .int i_textSize, .int i_textSteps, v_other, .int i_otherSize, .ref hpc, .int (nI (q2_4 + (a - a))), .int i_at, .int i_end, .int i_value])), (hpc, .inl (cC, 600, .inl (g2_5))), (hbuf, .inl (cB, 256, .inl (f)))]) [1, 2, 0] rfl) (hD.sub (ws' := [(h0, .inr (7, [.int i_thrown, .int i_down, .int i_lasts, .ref hbuf, .int i_size, .int i_documents, v_gone, v_first, v_many, v_lengths, v_authors, v_sums, v_row, v_made, .int i_madeSize, v_base, .int i_baseSize, v_text, .int i_textSize, .int i_textSteps, v_other, .int i_otherSize, .ref hpc, .int (nI (q2_4 + (a - a))), .int i_at, .int i_end, .int i_value])), (hpc, .inl (cC, 600, .inl (g2_5))), (hbuf, .inl (cB, 256, .inl (f)))]) [1, 2, 0] (by decide) rfl) hS ls (lv_sub hl [0, 1, 2, 3] rfl)
    replace hK := hK.sub (tys' := [(cC, .byte), (cB, .byte)]) [0, 1] rfl
    have hP9 := hP.sub (ws' := [(h0, .inr (7, [.int i_thrown, .int i_down, .int i_lasts, .ref hbuf, .int i_size, .int i_documents, v_gone, v_first, v_many, v_lengths, v_authors, v_sums, v_row, v_made, .int i_madeSize, v_base, .int i_baseSize, v_text, .int i_textSize, .int i_textSteps, v_other, .int i_otherSize, .ref hpc, .int (nI (q2_4 + (b - a))), .int i_at, .int i_end, .int i_value])), (hpc, .inl (cC, 600, .inl (g9))), (hbuf, .inl (cB, 256, .inl (f)))]) [0, 1, 2] rfl
    have hD9 := hD.sub (ws' := [(h0, .inr (7, [.int i_thrown, .int i_down, .int i_lasts, .ref hbuf, .int i_size, .int i_documents, v_gone, v_first, v_many, v_lengths, v_authors, v_sums, v_row, v_made, .int i_madeSize, v_base, .int i_baseSize, v_text, .int i_textSize, .int i_textSteps, v_other, .int i_otherSize, .ref hpc, .int (nI (q2_4 + (b - a))), .int i_at, .int i_end, .int i_value])), (hpc, .inl (cC, 600, .inl (g9))), (hbuf, .inl (cB, 256, .inl (f)))]) [0, 1, 2] (by decide) rfl
    have hK9 := hK.sub (tys' := [(cC, .byte), (cB, .byte)]) [0, 1] rfl
    exact W.vret hx hb hr (fun t ht hW => ⟨⟨(), rfl, trivial, (q2_4 + (b - a)), g9, (x_insT hab (by rw [htx.1]; exact hb9) hu_6_0 hg9), by rw [ht]; exact hP9, va_K.moved hW.alike hK9, hD9⟩, hS.F ht⟩) hS.2.2 d_O_inserts_37
