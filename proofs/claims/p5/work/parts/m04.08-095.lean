section
set_option maxHeartbeats 4000000 in
set_option maxRecDepth 100000 in
theorem o_put (l : Launch) (dC : Nat → ClassId) (dI : Nat → Nat → Nat) (sz : Nat) (h0 : Nat) (i_thrown : Int32) (i_down : Int32) (i_lasts : Int32) (v_buffer : Value) (i_size : Int32) (i_documents : Int32) (v_gone : Value) (v_first : Value) (v_many : Value) (v_lengths : Value) (v_authors : Value) (v_sums : Value) (v_row : Value) (v_made : Value) (i_madeSize : Int32) (v_base : Value) (i_baseSize : Int32) (v_text : Value) (i_textSize : Int32) (i_textSteps : Int32) (v_other : Value) (i_otherSize : Int32) (i_at : Int32) (i_end : Int32) (i_value : Int32) (hpc : Nat) (cC : ClassId) (q : Nat) (g : Nat → Int32) (P : List Int32) (a1 : Int32) (hp : tx P q g) (hq : q < 600) : Met l y_O_put k_O_put ({ frames := 0, cells := 0, slots := 0, locals := 0 } : Room) (va_Pc [.ref h0, .int a1] (pc_E (dC, dI) [(h0, .inr (7, [.int i_thrown, .int i_down, .int i_lasts, v_buffer, .int i_size, .int i_documents, v_gone, v_first, v_many, v_lengths, v_authors, v_sums, v_row, v_made, .int i_madeSize, v_base, .int i_baseSize, v_text, .int i_textSize, .int i_textSteps, v_other, .int i_otherSize, .ref hpc, .int (nI q), .int i_at, .int i_end, .int i_value])), (hpc, .inl (cC, 600, .inl (g)))] [(cC, .byte)] sz)) (va_Qv (fun (_ : Unit) => True) (fun (_ : Unit) t => ∃ (g2 : Nat → Int32), (tx (P ++ [nbb a1]) (q + 1) g2) ∧ at_E (dC, dI) (va_A [(h0, .inr (7, [.int i_thrown, .int i_down, .int i_lasts, v_buffer, .int i_size, .int i_documents, v_gone, v_first, v_many, v_lengths, v_authors, v_sums, v_row, v_made, .int i_madeSize, v_base, .int i_baseSize, v_text, .int i_textSize, .int i_textSteps, v_other, .int i_otherSize, .ref hpc, .int (nI q), .int i_at, .int i_end, .int i_value])), (hpc, .inl (cC, 600, .inl (g)))] sz) [(h0, .inr (7, [.int i_thrown, .int i_down, .int i_lasts, v_buffer, .int i_size, .int i_documents, v_gone, v_first, v_many, v_lengths, v_authors, v_sums, v_row, v_made, .int i_madeSize, v_base, .int i_baseSize, v_text, .int i_textSize, .int i_textSteps, v_other, .int i_otherSize, .ref hpc, .int (nI (q + 1)), .int i_at, .int i_end, .int i_value])), (hpc, .inl (cC, 600, .inl (g2)))] [(cC, .byte)] t) (va_A [(h0, .inr (7, [.int i_thrown, .int i_down, .int i_lasts, v_buffer, .int i_size, .int i_documents, v_gone, v_first, v_many, v_lengths, v_authors, v_sums, v_row, v_made, .int i_madeSize, v_base, .int i_baseSize, v_text, .int i_textSize, .int i_textSteps, v_other, .int i_otherSize, .ref hpc, .int (nI q), .int i_at, .int i_end, .int i_value])), (hpc, .inl (cC, 600, .inl (g)))] sz)) 0 0 (va_A [(h0, .inr (7, [.int i_thrown, .int i_down, .int i_lasts, v_buffer, .int i_size, .int i_documents, v_gone, v_first, v_many, v_lengths, v_authors, v_sums, v_row, v_made, .int i_madeSize, v_base, .int i_baseSize, v_text, .int i_textSize, .int i_textSteps, v_other, .int i_otherSize, .ref hpc, .int (nI q), .int i_at, .int i_end, .int i_value])), (hpc, .inl (cC, 600, .inl (g)))] sz) := by
  refine Met.ofW (cc := prog_9_method_21_code) (maxL := 2) (ret := none) (by decide) rfl ?_
  intro p e s m args below meth c s₁ B hml hv
  obtain ⟨rfl, hsz, hP, hK, hD0, hN⟩ := hv
  have hx := B.exec
  have hb := B.bytes
  have hr := B.returns
  have hts := atoms_spec (ws := k_O_put) B.pre
  have hw0 : ∀ w ∈ w0, w.before _ s = true := fun w h => hts w (List.mem_cons_of_mem _ h)
  have hown : s.vm.findClass R_O = some m.cls := findClass_of_methodNamed B.named
  have hlocks := B.notSynchronized
  subst hsz
  have hD := hD0.self (sz := s.heap.size)
  generalize hAe : va_A [(h0, .inr (7, [.int i_thrown, .int i_down, .int i_lasts, v_buffer, .int i_size, .int i_documents, v_gone, v_first, v_many, v_lengths, v_authors, v_sums, v_row, v_made, .int i_madeSize, v_base, .int i_baseSize, v_text, .int i_textSize, .int i_textSteps, v_other, .int i_otherSize, .ref hpc, .int (nI q), .int i_at, .int i_end, .int i_value])), (hpc, .inl (cC, 600, .inl (g)))] s.heap.size = A at hD ⊢
  have hA : ∀ q : Nat, s.heap.size ≤ q → A q := fun q h => by rw [← hAe]; exact Or.inr h
  have hS : va_S A s.heap s.heap [] := va_S.rf
  have hP : va_P (dC, dI) vwCl [(h0, .inr (7, [.int i_thrown, .int i_down, .int i_lasts, v_buffer, .int i_size, .int i_documents, v_gone, v_first, v_many, v_lengths, v_authors, v_sums, v_row, v_made, .int i_madeSize, v_base, .int i_baseSize, v_text, .int i_textSize, .int i_textSteps, v_other, .int i_otherSize, .ref hpc, .int (nI q), .int i_at, .int i_end, .int i_value])), (hpc, .inl (cC, 600, .inl (g)))] s.heap := hP
  have hl := lv_entry ([.ref h0, .int a1]) (n := 2) (Nat.le_of_ble_eq_true rfl)
  rw [lg_entry_eq]
  generalize (lg_sl ([.ref h0, .int a1]) ++ List.replicate (2 - (lg_sl ([.ref h0, .int a1])).length) Slot.unset).toArray = ls at hl ⊢
  have hl : lv_has ls 2 [(0, .ref h0), (1, .int a1)] := hl
  refine lv_aload_n hx hb d_O_put_0 rfl (lv_at hl 0 rfl) ?_
  refine va_get (D := (dC, dI)) (ci := 7) (v := .ref hpc) (C := R_O) (T := F_O) (N := 27) hx hb hw0 in_O hown hK hP 0 rfl rfl 22 (by decide) (hw0 (.fieldLink R_O 59 "TextKeeperModel" "piece" "[B") wm_238) (fun _ h9 => h9) rfl d_O_put_1 ?_
  refine lv_aload_n hx hb d_O_put_4 rfl (lv_at hl 0 rfl) ?_
  refine va_get (D := (dC, dI)) (ci := 7) (v := .int (nI q)) (C := R_O) (T := F_O) (N := 27) hx hb hw0 in_O hown hK hP 0 rfl rfl 23 (by decide) (hw0 (.fieldLink R_O 125 "TextKeeperModel" "pieceSize" "I") wm_239) (fun _ h9 => h9) rfl d_O_put_5 ?_
  refine lv_iload_n hx hb d_O_put_8 rfl (lv_at hl 1 rfl) ?_
  obtain ⟨x_1, ex_1⟩ : ∃ y : Int32, a1.toInt8.toInt32 = y := ⟨_, rfl⟩
  refine lv_i2b (v := x_1) hx hb d_O_put_9 ex_1 ?_
  refine va_bast hx hb hK hP hD hS 1 0 rfl rfl (vp_in_nI hq (by decide)) d_O_put_10 (fun H locs hP hD hS => ?_)
  replace hP : va_P (dC, dI) vwCl [(h0, .inr (7, [.int i_thrown, .int i_down, .int i_lasts, v_buffer, .int i_size, .int i_documents, v_gone, v_first, v_many, v_lengths, v_authors, v_sums, v_row, v_made, .int i_madeSize, v_base, .int i_baseSize, v_text, .int i_textSize, .int i_textSteps, v_other, .int i_otherSize, .ref hpc, .int (nI q), .int i_at, .int i_end, .int i_value])), (hpc, .inl (cC, 600, .inl (upd (g) (Int32.toNatClampNeg (nI q)) (vp_nar .byte (x_1)))))] H := hP
  replace hD : va_D A [(h0, .inr (7, [.int i_thrown, .int i_down, .int i_lasts, v_buffer, .int i_size, .int i_documents, v_gone, v_first, v_many, v_lengths, v_authors, v_sums, v_row, v_made, .int i_madeSize, v_base, .int i_baseSize, v_text, .int i_textSize, .int i_textSteps, v_other, .int i_otherSize, .ref hpc, .int (nI q), .int i_at, .int i_end, .int i_value])), (hpc, .inl (cC, 600, .inl (upd (g) (Int32.toNatClampNeg (nI q)) (vp_nar .byte (x_1)))))] := hD
  have eS : upd (g) (Int32.toNatClampNeg (nI q)) (vp_nar .byte (x_1)) = upd g q (nbb a1) := by rw [nI_clamp (by omega), ← ex_1]; exact congrArg (upd g q) (pk_vb a1)
  rw [eS] at hP hD
  refine lv_aload_n hx hb d_O_put_11 rfl (lv_at hl 0 rfl) ?_
  refine lv_dup hx hb d_O_put_12 rfl ?_
  refine va_get (D := (dC, dI)) (ci := 7) (v := .int (nI q)) (C := R_O) (T := F_O) (N := 27) hx hb hw0 in_O hown hK hP 0 rfl rfl 23 (by decide) (hw0 (.fieldLink R_O 125 "TextKeeperModel" "pieceSize" "I") wm_239) (fun _ h9 => h9) rfl d_O_put_13 ?_
  refine lv_iconst (v := 1) hx hb d_O_put_16 (by decide) ?_
  refine lv_iadd hx hb d_O_put_17 ?_
  refine lv_topi (fun x_2 ex_2 => ?_)
  obtain rfl : x_2 = (nI (q + 1)) := by rw [ex_2]; exact nI_1 q
  clear ex_2
  refine va_put (D := (dC, dI)) (ci := 7) (v := .int (nI (q + 1))) (ty := .int) (C := R_O) (T := F_O) (N := 27) hx hb hw0 in_O ft_O tk_O nk_O hown hK hP hD hS 0 rfl rfl 23 (by decide) (hw0 (.fieldLink R_O 125 "TextKeeperModel" "pieceSize" "I") wm_239) (fun _ h9 => h9) rfl (by decide +kernel) rfl rfl (Nat.le_of_ble_eq_true rfl) d_O_put_18 (fun H locs hP hD hS => ?_)
  replace hP : va_P (dC, dI) vwCl [(h0, .inr (7, [.int i_thrown, .int i_down, .int i_lasts, v_buffer, .int i_size, .int i_documents, v_gone, v_first, v_many, v_lengths, v_authors, v_sums, v_row, v_made, .int i_madeSize, v_base, .int i_baseSize, v_text, .int i_textSize, .int i_textSteps, v_other, .int i_otherSize, .ref hpc, .int (nI (q + 1)), .int i_at, .int i_end, .int i_value])), (hpc, .inl (cC, 600, .inl ((upd g q (nbb a1)))))] H := hP
  replace hD : va_D A [(h0, .inr (7, [.int i_thrown, .int i_down, .int i_lasts, v_buffer, .int i_size, .int i_documents, v_gone, v_first, v_many, v_lengths, v_authors, v_sums, v_row, v_made, .int i_madeSize, v_base, .int i_baseSize, v_text, .int i_textSize, .int i_textSteps, v_other, .int i_otherSize, .ref hpc, .int (nI (q + 1)), .int i_at, .int i_end, .int i_value])), (hpc, .inl (cC, 600, .inl ((upd g q (nbb a1)))))] := hD
  have hP9 := hP.sub (ws' := [(h0, .inr (7, [.int i_thrown, .int i_down, .int i_lasts, v_buffer, .int i_size, .int i_documents, v_gone, v_first, v_many, v_lengths, v_authors, v_sums, v_row, v_made, .int i_madeSize, v_base, .int i_baseSize, v_text, .int i_textSize, .int i_textSteps, v_other, .int i_otherSize, .ref hpc, .int (nI (q + 1)), .int i_at, .int i_end, .int i_value])), (hpc, .inl (cC, 600, .inl ((upd g q (nbb a1)))))]) [0, 1] rfl
  have hD9 := hD.sub (ws' := [(h0, .inr (7, [.int i_thrown, .int i_down, .int i_lasts, v_buffer, .int i_size, .int i_documents, v_gone, v_first, v_many, v_lengths, v_authors, v_sums, v_row, v_made, .int i_madeSize, v_base, .int i_baseSize, v_text, .int i_textSize, .int i_textSteps, v_other, .int i_otherSize, .ref hpc, .int (nI (q + 1)), .int i_at, .int i_end, .int i_value])), (hpc, .inl (cC, 600, .inl ((upd g q (nbb a1)))))]) [0, 1] (by decide) rfl
  have hK9 := hK.sub (tys' := [(cC, .byte)]) [0] rfl
  exact W.vret hx hb hr (fun t ht hW => ⟨⟨(), rfl, trivial, (upd g q (nbb a1)), tx_push hp (nbb_B a1), by rw [ht]; exact hP9, va_K.moved hW.alike hK9, hD9⟩, hS.F ht⟩) hS.2.2 d_O_put_21
set_option maxHeartbeats 4000000 in
set_option maxRecDepth 100000 in
theorem o_putNumber (l : Launch) (dC : Nat → ClassId) (dI : Nat → Nat → Nat) (sz : Nat) (h0 : Nat) (i_thrown : Int32) (i_down : Int32) (i_lasts : Int32) (v_buffer : Value) (i_size : Int32) (i_documents : Int32) (v_gone : Value) (v_first : Value) (v_many : Value) (v_lengths : Value) (v_authors : Value) (v_sums : Value) (v_row : Value) (v_made : Value) (i_madeSize : Int32) (v_base : Value) (i_baseSize : Int32) (v_text : Value) (i_textSize : Int32) (i_textSteps : Int32) (v_other : Value) (i_otherSize : Int32) (i_at : Int32) (i_end : Int32) (i_value : Int32) (hpc : Nat) (cC : ClassId) (q : Nat) (g : Nat → Int32) (P : List Int32) (n : Nat) (hp : tx P q g) (hn : n < 16384) (hq : q + 2 ≤ 600) : Met l y_O_putNumber k_O_putNumber ({ frames := 1, cells := 0, slots := 0, locals := 21 } : Room) (va_Pc [.ref h0, .int (nI n)] (pc_E (dC, dI) [(h0, .inr (7, [.int i_thrown, .int i_down, .int i_lasts, v_buffer, .int i_size, .int i_documents, v_gone, v_first, v_many, v_lengths, v_authors, v_sums, v_row, v_made, .int i_madeSize, v_base, .int i_baseSize, v_text, .int i_textSize, .int i_textSteps, v_other, .int i_otherSize, .ref hpc, .int (nI q), .int i_at, .int i_end, .int i_value])), (hpc, .inl (cC, 600, .inl (g)))] [(cC, .byte)] sz)) (va_Qv (fun (_ : Unit) => True) (fun (_ : Unit) t => ∃ (q2 : Nat) (g2 : Nat → Int32), (q2 = q + dgt n ∧ tx (P ++ encN n) q2 g2) ∧ at_E (dC, dI) (va_A [(h0, .inr (7, [.int i_thrown, .int i_down, .int i_lasts, v_buffer, .int i_size, .int i_documents, v_gone, v_first, v_many, v_lengths, v_authors, v_sums, v_row, v_made, .int i_madeSize, v_base, .int i_baseSize, v_text, .int i_textSize, .int i_textSteps, v_other, .int i_otherSize, .ref hpc, .int (nI q), .int i_at, .int i_end, .int i_value])), (hpc, .inl (cC, 600, .inl (g)))] sz) [(h0, .inr (7, [.int i_thrown, .int i_down, .int i_lasts, v_buffer, .int i_size, .int i_documents, v_gone, v_first, v_many, v_lengths, v_authors, v_sums, v_row, v_made, .int i_madeSize, v_base, .int i_baseSize, v_text, .int i_textSize, .int i_textSteps, v_other, .int i_otherSize, .ref hpc, .int (nI q2), .int i_at, .int i_end, .int i_value])), (hpc, .inl (cC, 600, .inl (g2)))] [(cC, .byte)] t) (va_A [(h0, .inr (7, [.int i_thrown, .int i_down, .int i_lasts, v_buffer, .int i_size, .int i_documents, v_gone, v_first, v_many, v_lengths, v_authors, v_sums, v_row, v_made, .int i_madeSize, v_base, .int i_baseSize, v_text, .int i_textSize, .int i_textSteps, v_other, .int i_otherSize, .ref hpc, .int (nI q), .int i_at, .int i_end, .int i_value])), (hpc, .inl (cC, 600, .inl (g)))] sz)) 0 0 (va_A [(h0, .inr (7, [.int i_thrown, .int i_down, .int i_lasts, v_buffer, .int i_size, .int i_documents, v_gone, v_first, v_many, v_lengths, v_authors, v_sums, v_row, v_made, .int i_madeSize, v_base, .int i_baseSize, v_text, .int i_textSize, .int i_textSteps, v_other, .int i_otherSize, .ref hpc, .int (nI q), .int i_at, .int i_end, .int i_value])), (hpc, .inl (cC, 600, .inl (g)))] sz) := by
  refine Met.ofW (cc := prog_9_method_22_code) (maxL := 3) (ret := none) (by decide) rfl ?_
  intro p e s m args below meth c s₁ B hml hv
  obtain ⟨rfl, hsz, hP, hK, hD0, hN⟩ := hv
  have hx := B.exec
  have hb := B.bytes
  have hr := B.returns
  have hts := atoms_spec (ws := k_O_putNumber) B.pre
  have hw0 : ∀ w ∈ w0, w.before _ s = true := fun w h => hts w (List.mem_cons_of_mem _ h)
  have hown : s.vm.findClass R_O = some m.cls := findClass_of_methodNamed B.named
  have hlocks := B.notSynchronized
  subst hsz
  have hD := hD0.self (sz := s.heap.size)
  generalize hAe : va_A [(h0, .inr (7, [.int i_thrown, .int i_down, .int i_lasts, v_buffer, .int i_size, .int i_documents, v_gone, v_first, v_many, v_lengths, v_authors, v_sums, v_row, v_made, .int i_madeSize, v_base, .int i_baseSize, v_text, .int i_textSize, .int i_textSteps, v_other, .int i_otherSize, .ref hpc, .int (nI q), .int i_at, .int i_end, .int i_value])), (hpc, .inl (cC, 600, .inl (g)))] s.heap.size = A at hD ⊢
  have hA : ∀ q : Nat, s.heap.size ≤ q → A q := fun q h => by rw [← hAe]; exact Or.inr h
  have hS : va_S A s.heap s.heap [] := va_S.rf
  have hP : va_P (dC, dI) vwCl [(h0, .inr (7, [.int i_thrown, .int i_down, .int i_lasts, v_buffer, .int i_size, .int i_documents, v_gone, v_first, v_many, v_lengths, v_authors, v_sums, v_row, v_made, .int i_madeSize, v_base, .int i_baseSize, v_text, .int i_textSize, .int i_textSteps, v_other, .int i_otherSize, .ref hpc, .int (nI q), .int i_at, .int i_end, .int i_value])), (hpc, .inl (cC, 600, .inl (g)))] s.heap := hP
  have hl := lv_entry ([.ref h0, .int (nI n)]) (n := 3) (Nat.le_of_ble_eq_true rfl)
  rw [lg_entry_eq]
  generalize (lg_sl ([.ref h0, .int (nI n)]) ++ List.replicate (3 - (lg_sl ([.ref h0, .int (nI n)])).length) Slot.unset).toArray = ls at hl ⊢
  have hl : lv_has ls 3 [(0, .ref h0), (1, .int (nI n))] := hl
  refine lv_iload_n hx hb d_O_putNumber_0 rfl (lv_at hl 1 rfl) ?_
  refine lv_istore_n (lv' := [(2, .int (nI n)), (0, .ref h0), (1, .int (nI n))]) hx hb d_O_putNumber_1 rfl hl (by decide) rfl (fun ls hl => ?_)
  refine lv_iload_n hx hb d_O_putNumber_2 rfl (lv_at hl 0 rfl) ?_
  refine lv_bipush (v := 127) hx hb d_O_putNumber_3 (by decide +kernel) ?_
  refine lv_icmp_le (tgt := 30) hx hb d_O_putNumber_5 (by decide) (fun c_1 => ?_) (fun c_1 => ?_)
  · refine lv_aload_n hx hb d_O_putNumber_30 rfl (lv_at hl 1 rfl) ?_
    refine lv_iload_n hx hb d_O_putNumber_31 rfl (lv_at hl 0 rfl) ?_
    have hPc := hP.sub (ws' := [(h0, .inr (7, [.int i_thrown, .int i_down, .int i_lasts, v_buffer, .int i_size, .int i_documents, v_gone, v_first, v_many, v_lengths, v_authors, v_sums, v_row, v_made, .int i_madeSize, v_base, .int i_baseSize, v_text, .int i_textSize, .int i_textSteps, v_other, .int i_otherSize, .ref hpc, .int (nI q), .int i_at, .int i_end, .int i_value])), (hpc, .inl (cC, 600, .inl ((g))))]) [0, 1] rfl
    have hKc := hK.sub (tys' := [(cC, .byte)]) [0] rfl
    have hDc := hD.sub (ws' := [(h0, .inr (7, [.int i_thrown, .int i_down, .int i_lasts, v_buffer, .int i_size, .int i_documents, v_gone, v_first, v_many, v_lengths, v_authors, v_sums, v_row, v_made, .int i_madeSize, v_base, .int i_baseSize, v_text, .int i_textSize, .int i_textSteps, v_other, .int i_otherSize, .ref hpc, .int (nI q), .int i_at, .int i_end, .int i_value])), (hpc, .inl (cC, 600, .inl ((g))))]) [0, 1] (by decide) rfl
    have hFc := va_free (wc := [(h0, .inr (7, [.int i_thrown, .int i_down, .int i_lasts, v_buffer, .int i_size, .int i_documents, v_gone, v_first, v_many, v_lengths, v_authors, v_sums, v_row, v_made, .int i_madeSize, v_base, .int i_baseSize, v_text, .int i_textSize, .int i_textSteps, v_other, .int i_otherSize, .ref hpc, .int (nI q), .int i_at, .int i_end, .int i_value])), (hpc, .inl (cC, 600, .inl ((g))))]) hD hS hA [0, 1] rfl
    refine va_callv (va_runV (As := [.int (nI n)]) (rest := []) ⟨hx, hb, hml, hown, hw0⟩ (o_put l dC dI s.heap.size h0 i_thrown i_down i_lasts v_buffer i_size i_documents v_gone v_first v_many v_lengths v_authors v_sums v_row v_made i_madeSize v_base i_baseSize v_text i_textSize i_textSteps v_other i_otherSize i_at i_end i_value hpc cC q (g) _ (nI n) (by first | assumption | decide | omega) (by first | assumption | decide | omega)) (cwV 1 hw0 (gd_Vm wm_240 wm_241 wm_242 wm_243 wm_244) rfl rfl rfl (by decide +kernel) ⟨by decide +kernel, by decide +kernel⟩) (prV_E hPc hKc hDc hN (va_recv hKc hPc (ci := 7) (q0 := 0) rfl rfl)) rfl rfl hl.1 rfl (lv_room (Nat.le_of_ble_eq_true rfl)) d_O_putNumber_32 ⟨by decide +kernel, by decide +kernel⟩) hS (fun q _ h => hFc q h) hFc (fun u t H1 locs ht hvm hw hB hz1 hk1 hS => ?_)
    obtain ⟨g2_2, hu_3, hP1, hK1, hD1⟩ := hB
    rw [ht] at hP1
    have hK1 := va_K.moved hvm.symm hK1
    try dsimp only at hw
    obtain ⟨hP, hD⟩ := va_join (wr := []) (w1 := [(h0, .inr (7, [.int i_thrown, .int i_down, .int i_lasts, v_buffer, .int i_size, .int i_documents, v_gone, v_first, v_many, v_lengths, v_authors, v_sums, v_row, v_made, .int i_madeSize, v_base, .int i_baseSize, v_text, .int i_textSize, .int i_textSteps, v_other, .int i_otherSize, .ref hpc, .int (nI (q + 1)), .int i_at, .int i_end, .int i_value])), (hpc, .inl (cC, 600, .inl (g2_2)))]) hP hD [0, 1] [] rfl rfl (by decide) (by decide) hk1 hFc hP1 hD1
    generalize H1 = H at hP hS ⊢
    replace hP : va_P (dC, dI) vwCl [(h0, .inr (7, [.int i_thrown, .int i_down, .int i_lasts, v_buffer, .int i_size, .int i_documents, v_gone, v_first, v_many, v_lengths, v_authors, v_sums, v_row, v_made, .int i_madeSize, v_base, .int i_baseSize, v_text, .int i_textSize, .int i_textSteps, v_other, .int i_otherSize, .ref hpc, .int (nI (q + 1)), .int i_at, .int i_end, .int i_value])), (hpc, .inl (cC, 600, .inl (g2_2)))] H := hP
    replace hD : va_D A [(h0, .inr (7, [.int i_thrown, .int i_down, .int i_lasts, v_buffer, .int i_size, .int i_documents, v_gone, v_first, v_many, v_lengths, v_authors, v_sums, v_row, v_made, .int i_madeSize, v_base, .int i_baseSize, v_text, .int i_textSize, .int i_textSteps, v_other, .int i_otherSize, .ref hpc, .int (nI (q + 1)), .int i_at, .int i_end, .int i_value])), (hpc, .inl (cC, 600, .inl (g2_2)))] := hD
    replace hK : va_K (dC, dI) vwCl [(cC, .byte)] s := hK
    have hP9 := hP.sub (ws' := [(h0, .inr (7, [.int i_thrown, .int i_down, .int i_lasts, v_buffer, .int i_size, .int i_documents, v_gone, v_first, v_many, v_lengths, v_authors, v_sums, v_row, v_made, .int i_madeSize, v_base, .int i_baseSize, v_text, .int i_textSize, .int i_textSteps, v_other, .int i_otherSize, .ref hpc, .int (nI (q + 1)), .int i_at, .int i_end, .int i_value])), (hpc, .inl (cC, 600, .inl (g2_2)))]) [0, 1] rfl
    have hD9 := hD.sub (ws' := [(h0, .inr (7, [.int i_thrown, .int i_down, .int i_lasts, v_buffer, .int i_size, .int i_documents, v_gone, v_first, v_many, v_lengths, v_authors, v_sums, v_row, v_made, .int i_madeSize, v_base, .int i_baseSize, v_text, .int i_textSize, .int i_textSteps, v_other, .int i_otherSize, .ref hpc, .int (nI (q + 1)), .int i_at, .int i_end, .int i_value])), (hpc, .inl (cC, 600, .inl (g2_2)))]) [0, 1] (by decide) rfl
    have hK9 := hK.sub (tys' := [(cC, .byte)]) [0] rfl
    exact W.vret hx hb hr (fun t ht hW => ⟨⟨(), rfl, trivial, (q + 1), g2_2, (y_en1 (by omega) c_1 hu_3), by rw [ht]; exact hP9, va_K.moved hW.alike hK9, hD9⟩, hS.F ht⟩) hS.2.2 d_O_putNumber_35
  · refine lv_aload_n hx hb d_O_putNumber_8 rfl (lv_at hl 1 rfl) ?_
    refine lv_iload_n hx hb d_O_putNumber_9 rfl (lv_at hl 0 rfl) ?_
    refine lv_sipush (v := 128) hx hb d_O_putNumber_10 (by decide +kernel) ?_
    refine lv_irem hx hb d_O_putNumber_13 (by decide +kernel) ?_
    refine lv_topi (fun x_4 ex_4 => ?_)
    obtain rfl : x_4 = (nI (n % 128)) := by rw [ex_4]; exact (show nI n - nI n / nI 128 * nI 128 = nI (n % 128) from pk_rem (by omega) (by decide) (by decide))
    clear ex_4
    refine lv_sipush (v := 128) hx hb d_O_putNumber_14 (by decide +kernel) ?_
    refine lv_iadd hx hb d_O_putNumber_17 ?_
    refine lv_topi (fun x_5 ex_5 => ?_)
    obtain rfl : x_5 = (nI (n % 128 + 128)) := by rw [ex_5]; exact nI_add (n % 128) 128
    clear ex_5
    have hPc := hP.sub (ws' := [(h0, .inr (7, [.int i_thrown, .int i_down, .int i_lasts, v_buffer, .int i_size, .int i_documents, v_gone, v_first, v_many, v_lengths, v_authors, v_sums, v_row, v_made, .int i_madeSize, v_base, .int i_baseSize, v_text, .int i_textSize, .int i_textSteps, v_other, .int i_otherSize, .ref hpc, .int (nI q), .int i_at, .int i_end, .int i_value])), (hpc, .inl (cC, 600, .inl ((g))))]) [0, 1] rfl
    have hKc := hK.sub (tys' := [(cC, .byte)]) [0] rfl
    have hDc := hD.sub (ws' := [(h0, .inr (7, [.int i_thrown, .int i_down, .int i_lasts, v_buffer, .int i_size, .int i_documents, v_gone, v_first, v_many, v_lengths, v_authors, v_sums, v_row, v_made, .int i_madeSize, v_base, .int i_baseSize, v_text, .int i_textSize, .int i_textSteps, v_other, .int i_otherSize, .ref hpc, .int (nI q), .int i_at, .int i_end, .int i_value])), (hpc, .inl (cC, 600, .inl ((g))))]) [0, 1] (by decide) rfl
    have hFc := va_free (wc := [(h0, .inr (7, [.int i_thrown, .int i_down, .int i_lasts, v_buffer, .int i_size, .int i_documents, v_gone, v_first, v_many, v_lengths, v_authors, v_sums, v_row, v_made, .int i_madeSize, v_base, .int i_baseSize, v_text, .int i_textSize, .int i_textSteps, v_other, .int i_otherSize, .ref hpc, .int (nI q), .int i_at, .int i_end, .int i_value])), (hpc, .inl (cC, 600, .inl ((g))))]) hD hS hA [0, 1] rfl
    refine va_callv (va_runV (As := [.int (nI (n % 128 + 128))]) (rest := []) ⟨hx, hb, hml, hown, hw0⟩ (o_put l dC dI s.heap.size h0 i_thrown i_down i_lasts v_buffer i_size i_documents v_gone v_first v_many v_lengths v_authors v_sums v_row v_made i_madeSize v_base i_baseSize v_text i_textSize i_textSteps v_other i_otherSize i_at i_end i_value hpc cC q (g) _ (nI (n % 128 + 128)) (by first | assumption | decide | omega) (by first | assumption | decide | omega)) (cwV 1 hw0 (gd_Vm wm_240 wm_241 wm_242 wm_243 wm_244) rfl rfl rfl (by decide +kernel) ⟨by decide +kernel, by decide +kernel⟩) (prV_E hPc hKc hDc hN (va_recv hKc hPc (ci := 7) (q0 := 0) rfl rfl)) rfl rfl hl.1 rfl (lv_room (Nat.le_of_ble_eq_true rfl)) d_O_putNumber_18 ⟨by decide +kernel, by decide +kernel⟩) hS (fun q _ h => hFc q h) hFc (fun u t H1 locs ht hvm hw hB hz1 hk1 hS => ?_)
    obtain ⟨g2_6, hu_7, hP1, hK1, hD1⟩ := hB
    rw [ht] at hP1
    have hK1 := va_K.moved hvm.symm hK1
    try dsimp only at hw
    obtain ⟨hP, hD⟩ := va_join (wr := []) (w1 := [(h0, .inr (7, [.int i_thrown, .int i_down, .int i_lasts, v_buffer, .int i_size, .int i_documents, v_gone, v_first, v_many, v_lengths, v_authors, v_sums, v_row, v_made, .int i_madeSize, v_base, .int i_baseSize, v_text, .int i_textSize, .int i_textSteps, v_other, .int i_otherSize, .ref hpc, .int (nI (q + 1)), .int i_at, .int i_end, .int i_value])), (hpc, .inl (cC, 600, .inl (g2_6)))]) hP hD [0, 1] [] rfl rfl (by decide) (by decide) hk1 hFc hP1 hD1
    generalize H1 = H at hP hS ⊢
    replace hP : va_P (dC, dI) vwCl [(h0, .inr (7, [.int i_thrown, .int i_down, .int i_lasts, v_buffer, .int i_size, .int i_documents, v_gone, v_first, v_many, v_lengths, v_authors, v_sums, v_row, v_made, .int i_madeSize, v_base, .int i_baseSize, v_text, .int i_textSize, .int i_textSteps, v_other, .int i_otherSize, .ref hpc, .int (nI (q + 1)), .int i_at, .int i_end, .int i_value])), (hpc, .inl (cC, 600, .inl (g2_6)))] H := hP
    replace hD : va_D A [(h0, .inr (7, [.int i_thrown, .int i_down, .int i_lasts, v_buffer, .int i_size, .int i_documents, v_gone, v_first, v_many, v_lengths, v_authors, v_sums, v_row, v_made, .int i_madeSize, v_base, .int i_baseSize, v_text, .int i_textSize, .int i_textSteps, v_other, .int i_otherSize, .ref hpc, .int (nI (q + 1)), .int i_at, .int i_end, .int i_value])), (hpc, .inl (cC, 600, .inl (g2_6)))] := hD
    replace hK : va_K (dC, dI) vwCl [(cC, .byte)] s := hK
    refine lv_iload_n hx hb d_O_putNumber_21 rfl (lv_at hl 0 rfl) ?_
    refine lv_sipush (v := 128) hx hb d_O_putNumber_22 (by decide +kernel) ?_
    refine lv_idiv hx hb d_O_putNumber_25 (by decide +kernel) ?_
    refine lv_topi (fun x_8 ex_8 => ?_)
    obtain rfl : x_8 = (nI (n / 128)) := by rw [ex_8]; exact (show nI n / nI 128 = nI (n / 128) from pk_div (by omega) (by decide) (by decide))
    clear ex_8
    refine lv_istore_n (lv' := [(2, .int (nI (n / 128))), (0, .ref h0), (1, .int (nI n))]) hx hb d_O_putNumber_26 rfl hl (by decide) rfl (fun ls hl => ?_)
    refine lv_goto (tgt := 2) hx hb d_O_putNumber_27 (by decide) ?_
    refine lv_iload_n hx hb d_O_putNumber_2 rfl (lv_at hl 0 rfl) ?_
    refine lv_bipush (v := 127) hx hb d_O_putNumber_3 (by decide +kernel) ?_
    refine lv_icmp_le (tgt := 30) hx hb d_O_putNumber_5 (by decide) (fun c_9 => ?_) (fun c_9 => absurd (show nI (n / 128) ≤ nI 127 from nI_le (by omega) (by decide)) c_9)
    refine lv_aload_n hx hb d_O_putNumber_30 rfl (lv_at hl 1 rfl) ?_
    refine lv_iload_n hx hb d_O_putNumber_31 rfl (lv_at hl 0 rfl) ?_
    have hPc := hP.sub (ws' := [(h0, .inr (7, [.int i_thrown, .int i_down, .int i_lasts, v_buffer, .int i_size, .int i_documents, v_gone, v_first, v_many, v_lengths, v_authors, v_sums, v_row, v_made, .int i_madeSize, v_base, .int i_baseSize, v_text, .int i_textSize, .int i_textSteps, v_other, .int i_otherSize, .ref hpc, .int (nI (q + 1)), .int i_at, .int i_end, .int i_value])), (hpc, .inl (cC, 600, .inl ((g2_6))))]) [0, 1] rfl
    have hKc := hK.sub (tys' := [(cC, .byte)]) [0] rfl
    have hDc := hD.sub (ws' := [(h0, .inr (7, [.int i_thrown, .int i_down, .int i_lasts, v_buffer, .int i_size, .int i_documents, v_gone, v_first, v_many, v_lengths, v_authors, v_sums, v_row, v_made, .int i_madeSize, v_base, .int i_baseSize, v_text, .int i_textSize, .int i_textSteps, v_other, .int i_otherSize, .ref hpc, .int (nI (q + 1)), .int i_at, .int i_end, .int i_value])), (hpc, .inl (cC, 600, .inl ((g2_6))))]) [0, 1] (by decide) rfl
    have hFc := va_free (wc := [(h0, .inr (7, [.int i_thrown, .int i_down, .int i_lasts, v_buffer, .int i_size, .int i_documents, v_gone, v_first, v_many, v_lengths, v_authors, v_sums, v_row, v_made, .int i_madeSize, v_base, .int i_baseSize, v_text, .int i_textSize, .int i_textSteps, v_other, .int i_otherSize, .ref hpc, .int (nI (q + 1)), .int i_at, .int i_end, .int i_value])), (hpc, .inl (cC, 600, .inl ((g2_6))))]) hD hS hA [0, 1] rfl
    refine va_callv (va_runV (As := [.int (nI (n / 128))]) (rest := []) ⟨hx, hb, hml, hown, hw0⟩ (o_put l dC dI H.size h0 i_thrown i_down i_lasts v_buffer i_size i_documents v_gone v_first v_many v_lengths v_authors v_sums v_row v_made i_madeSize v_base i_baseSize v_text i_textSize i_textSteps v_other i_otherSize i_at i_end i_value hpc cC (q + 1) (g2_6) _ (nI (n / 128)) (by first | assumption | decide | omega) (by first | assumption | decide | omega)) (cwV 1 hw0 (gd_Vm wm_240 wm_241 wm_242 wm_243 wm_244) rfl rfl rfl (by decide +kernel) ⟨by decide +kernel, by decide +kernel⟩) (prV_E hPc hKc hDc hN (va_recv hKc hPc (ci := 7) (q0 := 0) rfl rfl)) rfl rfl hl.1 rfl (lv_room (Nat.le_of_ble_eq_true rfl)) d_O_putNumber_32 ⟨by decide +kernel, by decide +kernel⟩) hS (fun q _ h => hFc q h) hFc (fun u t H1 locs ht hvm hw hB hz1 hk1 hS => ?_)
    obtain ⟨g2_10, hu_11, hP1, hK1, hD1⟩ := hB
    rw [ht] at hP1
    have hK1 := va_K.moved hvm.symm hK1
    try dsimp only at hw
    obtain ⟨hP, hD⟩ := va_join (wr := []) (w1 := [(h0, .inr (7, [.int i_thrown, .int i_down, .int i_lasts, v_buffer, .int i_size, .int i_documents, v_gone, v_first, v_many, v_lengths, v_authors, v_sums, v_row, v_made, .int i_madeSize, v_base, .int i_baseSize, v_text, .int i_textSize, .int i_textSteps, v_other, .int i_otherSize, .ref hpc, .int (nI ((q + 1) + 1)), .int i_at, .int i_end, .int i_value])), (hpc, .inl (cC, 600, .inl (g2_10)))]) hP hD [0, 1] [] rfl rfl (by decide) (by decide) hk1 hFc hP1 hD1
    generalize H1 = H at hP hS ⊢
    replace hP : va_P (dC, dI) vwCl [(h0, .inr (7, [.int i_thrown, .int i_down, .int i_lasts, v_buffer, .int i_size, .int i_documents, v_gone, v_first, v_many, v_lengths, v_authors, v_sums, v_row, v_made, .int i_madeSize, v_base, .int i_baseSize, v_text, .int i_textSize, .int i_textSteps, v_other, .int i_otherSize, .ref hpc, .int (nI ((q + 1) + 1)), .int i_at, .int i_end, .int i_value])), (hpc, .inl (cC, 600, .inl (g2_10)))] H := hP
    replace hD : va_D A [(h0, .inr (7, [.int i_thrown, .int i_down, .int i_lasts, v_buffer, .int i_size, .int i_documents, v_gone, v_first, v_many, v_lengths, v_authors, v_sums, v_row, v_made, .int i_madeSize, v_base, .int i_baseSize, v_text, .int i_textSize, .int i_textSteps, v_other, .int i_otherSize, .ref hpc, .int (nI ((q + 1) + 1)), .int i_at, .int i_end, .int i_value])), (hpc, .inl (cC, 600, .inl (g2_10)))] := hD
    replace hK : va_K (dC, dI) vwCl [(cC, .byte)] s := hK
    have hP9 := hP.sub (ws' := [(h0, .inr (7, [.int i_thrown, .int i_down, .int i_lasts, v_buffer, .int i_size, .int i_documents, v_gone, v_first, v_many, v_lengths, v_authors, v_sums, v_row, v_made, .int i_madeSize, v_base, .int i_baseSize, v_text, .int i_textSize, .int i_textSteps, v_other, .int i_otherSize, .ref hpc, .int (nI ((q + 1) + 1)), .int i_at, .int i_end, .int i_value])), (hpc, .inl (cC, 600, .inl (g2_10)))]) [0, 1] rfl
    have hD9 := hD.sub (ws' := [(h0, .inr (7, [.int i_thrown, .int i_down, .int i_lasts, v_buffer, .int i_size, .int i_documents, v_gone, v_first, v_many, v_lengths, v_authors, v_sums, v_row, v_made, .int i_madeSize, v_base, .int i_baseSize, v_text, .int i_textSize, .int i_textSteps, v_other, .int i_otherSize, .ref hpc, .int (nI ((q + 1) + 1)), .int i_at, .int i_end, .int i_value])), (hpc, .inl (cC, 600, .inl (g2_10)))]) [0, 1] (by decide) rfl
    have hK9 := hK.sub (tys' := [(cC, .byte)]) [0] rfl
    exact W.vret hx hb hr (fun t ht hW => ⟨⟨(), rfl, trivial, ((q + 1) + 1), g2_10, (y_en2 (by omega) c_1 hu_11), by rw [ht]; exact hP9, va_K.moved hW.alike hK9, hD9⟩, hS.F ht⟩) hS.2.2 d_O_putNumber_35
set_option maxHeartbeats 4000000 in
set_option maxRecDepth 100000 in
theorem lo_run {p : Program} {l : Launch} {e : Env} {s : State} {m : MethodId} {args : Array Value} {below : List Frame} {meth : Method} {c : Code} {dC : Nat → ClassId} {dI : Nat → Nat → Nat} {Q : State → Prop} {H : Heap} {locs : List Loc} (h0 : Nat) (i_thrown : Int32) (i_down : Int32) (i_lasts : Int32) (i_documents : Int32) (v_gone : Value) (v_first : Value) (v_many : Value) (v_lengths : Value) (v_authors : Value) (v_sums : Value) (v_row : Value) (v_base : Value) (i_baseSize : Int32) (v_text : Value) (i_textSize : Int32) (i_textSteps : Int32) (v_other : Value) (i_otherSize : Int32) (v_piece : Value) (i_pieceSize : Int32) (i_at : Int32) (i_end : Int32) (i_value : Int32) (hbuf : Nat) (cB : ClassId) (k : Nat) (f : Nat → Int32) (L : List Int32) (hmade : Nat) (cM : ClassId) (k2 : Nat) (fo : Nat → Int32) (L2 : List Int32) (i : Nat) (j0 : Nat) (htx : tx L k f) (htx2 : tx L2 k2 fo) (hk : k ≤ 256) (hk2 : k2 ≤ 256) (hi : i ≤ k) (hj0 : j0 ≤ k2)
    (hx : p.tables.exec = Jvm.exec) (hb : c.code = prog_9_method_24_code) (hml : c.maxLocals = 4) (hown : s.vm.findClass R_O = some m.cls) (hw0 : ∀ w ∈ w0, w.before args s = true) (hN : nw_ok s) (hK : va_K (dC, dI) vwCl [(cB, .byte), (cM, .byte)] s) (hP : va_P (dC, dI) vwCl [(h0, .inr (7, [.int i_thrown, .int i_down, .int i_lasts, .ref hbuf, .int (nI k), .int i_documents, v_gone, v_first, v_many, v_lengths, v_authors, v_sums, v_row, .ref hmade, .int (nI k2), v_base, .int i_baseSize, v_text, .int i_textSize, .int i_textSteps, v_other, .int i_otherSize, v_piece, .int i_pieceSize, .int i_at, .int i_end, .int i_value])), (hbuf, .inl (cB, 256, .inl (f))), (hmade, .inl (cM, 256, .inl (fo)))] H)
    (kk : ∀ ls : Array Slot, lv_has ls 4 [(3, .int (nI (cpl (L.drop i) (L2.drop j0)))), (0, .ref h0), (1, .int (nI i)), (2, .int (nI j0))] → W p l e ({ frames := 0, cells := 0, slots := 0, locals := 0 } : Room) s m args below meth c H locs 0 0 Q (F0 m 47 ls [])) :
    ∀ (n j : Nat), j ≤ (k - i) → (k - i) < j + n → (j0 + j ≤ k2) → (∀ t, t < j → (L.drop i).getD t 0 = (L2.drop j0).getD t 0) → ∀ ls : Array Slot, lv_has ls 4 [(3, .int (nI j)), (0, .ref h0), (1, .int (nI i)), (2, .int (nI j0))] → W p l e ({ frames := 0, cells := 0, slots := 0, locals := 0 } : Room) s m args below meth c H locs 0 0 Q (F0 m 2 ls []) := by
  intro n
  induction n with
  | zero => intro j  h1 h2; exact absurd h2 (by omega)
  | succ n ih =>
    intro j  hj hn hf0 hf1 ls hl
    refine lv_iload_n hx hb d_O_run_2 rfl (lv_at hl 2 rfl) ?_
    refine lv_iload_n hx hb d_O_run_3 rfl (lv_at hl 0 rfl) ?_
    refine lv_iadd hx hb d_O_run_4 ?_
    refine lv_topi (fun x_1 ex_1 => ?_)
    obtain rfl : x_1 = (nI (i + j)) := by rw [ex_1]; exact nI_add i j
    clear ex_1
    refine lv_aload_n hx hb d_O_run_5 rfl (lv_at hl 1 rfl) ?_
    refine va_get (D := (dC, dI)) (ci := 7) (v := .int (nI k)) (C := R_O) (T := F_O) (N := 27) hx hb hw0 in_O hown hK hP 0 rfl rfl 4 (by decide) (hw0 (.fieldLink R_O 69 "TextKeeperModel" "size" "I") wm_245) (fun _ h9 => h9) rfl d_O_run_6 ?_
    refine lv_icmp_ge (tgt := 47) hx hb d_O_run_9 (by decide) (fun c_2 => ?_) (fun c_2 => ?_)
    · have e9 : (cpl (L.drop i) (L2.drop j0)) = j := cpl_is (by rw [List.length_drop, htx.1]; omega) (by rw [List.length_drop, htx2.1]; omega) hf1 (Or.inl (by have h9 := (nI_leI (by omega) (by omega)).mp c_2; rw [List.length_drop, htx.1]; omega))
      exact kk ls (by rw [e9]; exact (lv_sub hl [0, 1, 2, 3] rfl))
    · have hlt : i + j < k := (by rcases Nat.lt_or_ge (i + j) k with z | z; exact z; exact absurd (nI_le z (by omega)) c_2)
      refine lv_iload_n hx hb d_O_run_12 rfl (lv_at hl 3 rfl) ?_
      refine lv_iload_n hx hb d_O_run_13 rfl (lv_at hl 0 rfl) ?_
      refine lv_iadd hx hb d_O_run_14 ?_
      refine lv_topi (fun x_3 ex_3 => ?_)
      obtain rfl : x_3 = (nI (j0 + j)) := by rw [ex_3]; exact nI_add j0 j
      clear ex_3
      refine lv_aload_n hx hb d_O_run_15 rfl (lv_at hl 1 rfl) ?_
      refine va_get (D := (dC, dI)) (ci := 7) (v := .int (nI k2)) (C := R_O) (T := F_O) (N := 27) hx hb hw0 in_O hown hK hP 0 rfl rfl 14 (by decide) (hw0 (.fieldLink R_O 113 "TextKeeperModel" "madeSize" "I") wm_246) (fun _ h9 => h9) rfl d_O_run_16 ?_
      refine lv_icmp_ge (tgt := 47) hx hb d_O_run_19 (by decide) (fun c_4 => ?_) (fun c_4 => ?_)
      · have e9 : (cpl (L.drop i) (L2.drop j0)) = j := cpl_is (by rw [List.length_drop, htx.1]; omega) (by rw [List.length_drop, htx2.1]; omega) hf1 (Or.inr (Or.inl (by have h9 := (nI_leI (by omega) (by omega)).mp c_4; rw [List.length_drop, htx2.1]; omega)))
        exact kk ls (by rw [e9]; exact (lv_sub hl [0, 1, 2, 3] rfl))
      · have hlt2 : j0 + j < k2 := (by rcases Nat.lt_or_ge (j0 + j) k2 with z | z; exact z; exact absurd (nI_le z (by omega)) c_4)
        refine lv_aload_n hx hb d_O_run_22 rfl (lv_at hl 1 rfl) ?_
        refine va_get (D := (dC, dI)) (ci := 7) (v := .ref hbuf) (C := R_O) (T := F_O) (N := 27) hx hb hw0 in_O hown hK hP 0 rfl rfl 3 (by decide) (hw0 (.fieldLink R_O 13 "TextKeeperModel" "buffer" "[B") wm_247) (fun _ h9 => h9) rfl d_O_run_23 ?_
        refine lv_iload_n hx hb d_O_run_26 rfl (lv_at hl 2 rfl) ?_
        refine lv_iload_n hx hb d_O_run_27 rfl (lv_at hl 0 rfl) ?_
        refine lv_iadd hx hb d_O_run_28 ?_
        refine lv_topi (fun x_5 ex_5 => ?_)
        obtain rfl : x_5 = (nI (i + j)) := by rw [ex_5]; exact nI_add i j
        clear ex_5
        refine va_bald hx hb hK hP 1 0 rfl rfl (vp_in_nI (by omega) (by decide)) d_O_run_29 ?_
        refine lv_topi (fun x_6 ex_6 => ?_)
        refine lv_aload_n hx hb d_O_run_30 rfl (lv_at hl 1 rfl) ?_
        refine va_get (D := (dC, dI)) (ci := 7) (v := .ref hmade) (C := R_O) (T := F_O) (N := 27) hx hb hw0 in_O hown hK hP 0 rfl rfl 13 (by decide) (hw0 (.fieldLink R_O 41 "TextKeeperModel" "made" "[B") wm_248) (fun _ h9 => h9) rfl d_O_run_31 ?_
        refine lv_iload_n hx hb d_O_run_34 rfl (lv_at hl 3 rfl) ?_
        refine lv_iload_n hx hb d_O_run_35 rfl (lv_at hl 0 rfl) ?_
        refine lv_iadd hx hb d_O_run_36 ?_
        refine lv_topi (fun x_7 ex_7 => ?_)
        obtain rfl : x_7 = (nI (j0 + j)) := by rw [ex_7]; exact nI_add j0 j
        clear ex_7
        refine va_bald hx hb hK hP 2 1 rfl rfl (vp_in_nI (by omega) (by decide)) d_O_run_37 ?_
        refine lv_topi (fun x_8 ex_8 => ?_)
        refine lv_icmp_ne (tgt := 47) hx hb d_O_run_38 (by decide) (fun c_9 => ?_) (fun c_9 => ?_)
        · have e9 : (cpl (L.drop i) (L2.drop j0)) = j := cpl_is (by rw [List.length_drop, htx.1]; omega) (by rw [List.length_drop, htx2.1]; omega) hf1 (Or.inr (Or.inr (fun h9 => c_9 (by rw [getD_drop, getD_drop] at h9; rw [ex_6, ex_8, nI_clamp (by omega), nI_clamp (by omega), tx_at htx (by omega), tx_at htx2 (by omega)]; exact h9))))
          exact kk ls (by rw [e9]; exact (lv_sub hl [0, 1, 2, 3] rfl))
        · refine lv_iinc (v := nI (j + 1)) (lv' := [(3, .int (nI (j + 1))), (0, .ref h0), (1, .int (nI i)), (2, .int (nI j0))]) hx hb d_O_run_41 hl (k := 0) rfl (nI_1 j) (by decide) rfl (fun ls hl => ?_)
          refine lv_goto (tgt := 2) hx hb d_O_run_44 (by decide) ?_
          exact ih (j + 1) (by omega) (by omega) (by omega) (fun t ht => by rcases Nat.lt_or_ge t j with q | q; exact hf1 t q; obtain rfl : t = j := (by omega); have h9 := c_9; rw [ex_6, ex_8] at h9; rw [getD_drop, getD_drop]; rw [nI_clamp (by omega), nI_clamp (by omega), tx_at htx (by omega), tx_at htx2 (by omega)] at h9; exact h9) ls (lv_sub hl [0, 1, 2, 3] rfl)
set_option maxHeartbeats 4000000 in
set_option maxRecDepth 100000 in
theorem o_run (l : Launch) (dC : Nat → ClassId) (dI : Nat → Nat → Nat) (h0 : Nat) (i_thrown : Int32) (i_down : Int32) (i_lasts : Int32) (i_documents : Int32) (v_gone : Value) (v_first : Value) (v_many : Value) (v_lengths : Value) (v_authors : Value) (v_sums : Value) (v_row : Value) (v_base : Value) (i_baseSize : Int32) (v_text : Value) (i_textSize : Int32) (i_textSteps : Int32) (v_other : Value) (i_otherSize : Int32) (v_piece : Value) (i_pieceSize : Int32) (i_at : Int32) (i_end : Int32) (i_value : Int32) (hbuf : Nat) (cB : ClassId) (k : Nat) (f : Nat → Int32) (L : List Int32) (hmade : Nat) (cM : ClassId) (k2 : Nat) (fo : Nat → Int32) (L2 : List Int32) (i : Nat) (j0 : Nat) (htx : tx L k f) (htx2 : tx L2 k2 fo) (hk : k ≤ 256) (hk2 : k2 ≤ 256) (hi : i ≤ k) (hj0 : j0 ≤ k2) : Met l y_O_run k_O_run ({ frames := 0, cells := 0, slots := 0, locals := 0 } : Room) (va_Pc [.ref h0, .int (nI i), .int (nI j0)] (pc_R (dC, dI) [(h0, .inr (7, [.int i_thrown, .int i_down, .int i_lasts, .ref hbuf, .int (nI k), .int i_documents, v_gone, v_first, v_many, v_lengths, v_authors, v_sums, v_row, .ref hmade, .int (nI k2), v_base, .int i_baseSize, v_text, .int i_textSize, .int i_textSteps, v_other, .int i_otherSize, v_piece, .int i_pieceSize, .int i_at, .int i_end, .int i_value])), (hbuf, .inl (cB, 256, .inl (f))), (hmade, .inl (cM, 256, .inl (fo)))] [(cB, .byte), (cM, .byte)])) (vp_Si (fun r => r = nI (cpl (L.drop i) (L2.drop j0)))) 0 0 (fun _ => False) := by
  refine Met.ofW (cc := prog_9_method_24_code) (maxL := 4) (ret := (some .int)) (by decide) rfl ?_
  intro p e s m args below meth c s₁ B hml hv
  obtain ⟨rfl, hP, hK, hN⟩ := hv
  have hx := B.exec
  have hb := B.bytes
  have hr := B.returns
  have hts := atoms_spec (ws := k_O_run) B.pre
  have hw0 : ∀ w ∈ w0, w.before _ s = true := fun w h => hts w (List.mem_cons_of_mem _ h)
  have hown : s.vm.findClass R_O = some m.cls := findClass_of_methodNamed B.named
  have hlocks := B.notSynchronized
  have hP : va_P (dC, dI) vwCl [(h0, .inr (7, [.int i_thrown, .int i_down, .int i_lasts, .ref hbuf, .int (nI k), .int i_documents, v_gone, v_first, v_many, v_lengths, v_authors, v_sums, v_row, .ref hmade, .int (nI k2), v_base, .int i_baseSize, v_text, .int i_textSize, .int i_textSteps, v_other, .int i_otherSize, v_piece, .int i_pieceSize, .int i_at, .int i_end, .int i_value])), (hbuf, .inl (cB, 256, .inl (f))), (hmade, .inl (cM, 256, .inl (fo)))] s.heap := hP
  have hl := lv_entry ([.ref h0, .int (nI i), .int (nI j0)]) (n := 4) (Nat.le_of_ble_eq_true rfl)
  rw [lg_entry_eq]
  generalize (lg_sl ([.ref h0, .int (nI i), .int (nI j0)]) ++ List.replicate (4 - (lg_sl ([.ref h0, .int (nI i), .int (nI j0)])).length) Slot.unset).toArray = ls at hl ⊢
  have hl : lv_has ls 4 [(0, .ref h0), (1, .int (nI i)), (2, .int (nI j0))] := hl
  refine lv_iconst (v := 0) hx hb d_O_run_0 (by decide) ?_
  refine lv_istore_n (lv' := [(3, .int 0), (0, .ref h0), (1, .int (nI i)), (2, .int (nI j0))]) hx hb d_O_run_1 rfl hl (by decide) rfl (fun ls hl => ?_)
  refine lo_run h0 i_thrown i_down i_lasts i_documents v_gone v_first v_many v_lengths v_authors v_sums v_row v_base i_baseSize v_text i_textSize i_textSteps v_other i_otherSize v_piece i_pieceSize i_at i_end i_value hbuf cB k f L hmade cM k2 fo L2 i j0 htx htx2 hk hk2 hi hj0 hx hb hml hown hw0 hN hK hP (fun ls hl => ?_) (k - i + 1) 0 (by omega) (by omega) (by omega) (fun t ht => absurd ht (Nat.not_lt_zero t)) ls (lv_sub hl [0, 1, 2, 3] rfl)
  refine lv_iload_n hx hb d_O_run_47 rfl (lv_at hl 0 rfl) ?_
  exact W.iret (v := (nI (cpl (L.drop i) (L2.drop j0)))) hx hb hr (fun t ht hW => ⟨(nI (cpl (L.drop i) (L2.drop j0))), rfl, rfl, ht⟩) (fun q h => by cases h) d_O_run_48
set_option maxHeartbeats 4000000 in
set_option maxRecDepth 100000 in
theorem lo_ins {p : Program} {l : Launch} {e : Env} {s : State} {m : MethodId} {args : Array Value} {below : List Frame} {meth : Method} {c : Code} {dC : Nat → ClassId} {dI : Nat → Nat → Nat} {A : Nat → Prop} {Q : State → Prop} (h0 : Nat) (i_thrown : Int32) (i_down : Int32) (i_lasts : Int32) (i_size : Int32) (i_documents : Int32) (v_gone : Value) (v_first : Value) (v_many : Value) (v_lengths : Value) (v_authors : Value) (v_sums : Value) (v_row : Value) (v_made : Value) (i_madeSize : Int32) (v_base : Value) (i_baseSize : Int32) (v_text : Value) (i_textSize : Int32) (i_textSteps : Int32) (v_other : Value) (i_otherSize : Int32) (i_at : Int32) (i_end : Int32) (i_value : Int32) (hpc : Nat) (cC : ClassId) (q : Nat) (hbuf : Nat) (cB : ClassId) (k : Nat) (f : Nat → Int32) (L : List Int32) (a : Nat) (b : Nat) (P : List Int32) (htx : tx L k f) (hk : k ≤ 256) (hb9 : b ≤ k) (hq : q + (b - a) ≤ 600)
    (hx : p.tables.exec = Jvm.exec) (hb : c.code = prog_9_method_23_code) (hml : c.maxLocals = 4) (hown : s.vm.findClass R_O = some m.cls) (hw0 : ∀ w ∈ w0, w.before args s = true) (hN : nw_ok s) (hK : va_K (dC, dI) vwCl [(cC, .byte), (cB, .byte)] s) (hA : ∀ q : Nat, s.heap.size ≤ q → A q)
    (kk : ∀ (g : Nat → Int32), (a ≤ b) → (tx (P ++ (L.drop a).take (b - a)) (q + (b - a)) g) → ∀ (H : Heap) (locs : List Loc), va_P (dC, dI) vwCl [(h0, .inr (7, [.int i_thrown, .int i_down, .int i_lasts, .ref hbuf, .int i_size, .int i_documents, v_gone, v_first, v_many, v_lengths, v_authors, v_sums, v_row, v_made, .int i_madeSize, v_base, .int i_baseSize, v_text, .int i_textSize, .int i_textSteps, v_other, .int i_otherSize, .ref hpc, .int (nI (q + (b - a))), .int i_at, .int i_end, .int i_value])), (hpc, .inl (cC, 600, .inl (g))), (hbuf, .inl (cB, 256, .inl (f)))] H → va_D A [(h0, .inr (7, [.int i_thrown, .int i_down, .int i_lasts, .ref hbuf, .int i_size, .int i_documents, v_gone, v_first, v_many, v_lengths, v_authors, v_sums, v_row, v_made, .int i_madeSize, v_base, .int i_baseSize, v_text, .int i_textSize, .int i_textSteps, v_other, .int i_otherSize, .ref hpc, .int (nI (q + (b - a))), .int i_at, .int i_end, .int i_value])), (hpc, .inl (cC, 600, .inl (g))), (hbuf, .inl (cB, 256, .inl (f)))] → va_S A s.heap H locs → ∀ ls : Array Slot, lv_has ls 4 [(3, .int (nI b)), (0, .ref h0), (1, .int (nI a)), (2, .int (nI b))] → W p l e ({ frames := 2, cells := 0, slots := 0, locals := 43 } : Room) s m args below meth c H locs 0 0 Q (F0 m 37 ls [])) :
    ∀ (n j : Nat), j ≤ b → b < j + n → ∀ (g : Nat → Int32), (a ≤ j) → (tx (P ++ (L.drop a).take (j - a)) (q + (j - a)) g) → ∀ (H : Heap) (locs : List Loc), va_P (dC, dI) vwCl [(h0, .inr (7, [.int i_thrown, .int i_down, .int i_lasts, .ref hbuf, .int i_size, .int i_documents, v_gone, v_first, v_many, v_lengths, v_authors, v_sums, v_row, v_made, .int i_madeSize, v_base, .int i_baseSize, v_text, .int i_textSize, .int i_textSteps, v_other, .int i_otherSize, .ref hpc, .int (nI (q + (j - a))), .int i_at, .int i_end, .int i_value])), (hpc, .inl (cC, 600, .inl (g))), (hbuf, .inl (cB, 256, .inl (f)))] H → va_D A [(h0, .inr (7, [.int i_thrown, .int i_down, .int i_lasts, .ref hbuf, .int i_size, .int i_documents, v_gone, v_first, v_many, v_lengths, v_authors, v_sums, v_row, v_made, .int i_madeSize, v_base, .int i_baseSize, v_text, .int i_textSize, .int i_textSteps, v_other, .int i_otherSize, .ref hpc, .int (nI (q + (j - a))), .int i_at, .int i_end, .int i_value])), (hpc, .inl (cC, 600, .inl (g))), (hbuf, .inl (cB, 256, .inl (f)))] → va_S A s.heap H locs → ∀ ls : Array Slot, lv_has ls 4 [(3, .int (nI j)), (0, .ref h0), (1, .int (nI a)), (2, .int (nI b))] → W p l e ({ frames := 2, cells := 0, slots := 0, locals := 43 } : Room) s m args below meth c H locs 0 0 Q (F0 m 16 ls []) := by
  intro n
  induction n with
  | zero => intro j h1 h2; exact absurd h2 (by omega)
  | succ n ih =>
    intro j hj hn g hf0 hf1 H locs hP hD hS ls hl
    refine lv_iload_n hx hb d_O_inserts_16 rfl (lv_at hl 0 rfl) ?_
    refine lv_iload_n hx hb d_O_inserts_17 rfl (lv_at hl 3 rfl) ?_
    refine lv_icmp_ge (tgt := 37) hx hb d_O_inserts_18 (by decide) (fun c_1 => ?_) (fun c_1 => ?_)
    · obtain rfl : j = b := x_geN (by omega) hj c_1
      exact kk g hf0 hf1 _ _ hP hD hS ls (lv_sub hl [0, 1, 2, 3] rfl)
    · have hlt : j < b := x_ltN (by omega) hj c_1
      refine lv_aload_n hx hb d_O_inserts_21 rfl (lv_at hl 1 rfl) ?_
      refine lv_aload_n hx hb d_O_inserts_22 rfl (lv_at hl 1 rfl) ?_
      refine va_get (D := (dC, dI)) (ci := 7) (v := .ref hbuf) (C := R_O) (T := F_O) (N := 27) hx hb hw0 in_O hown hK hP 0 rfl rfl 3 (by decide) (hw0 (.fieldLink R_O 13 "TextKeeperModel" "buffer" "[B") wm_247) (fun _ h9 => h9) rfl d_O_inserts_23 ?_
      refine lv_iload_n hx hb d_O_inserts_26 rfl (lv_at hl 0 rfl) ?_
      refine va_bald hx hb hK hP 2 1 rfl rfl (vp_in_nI (by omega) (by decide)) d_O_inserts_27 ?_
      refine lv_topi (fun x_2 ex_2 => ?_)
      have hPc := hP.sub (ws' := [(h0, .inr (7, [.int i_thrown, .int i_down, .int i_lasts, .ref hbuf, .int i_size, .int i_documents, v_gone, v_first, v_many, v_lengths, v_authors, v_sums, v_row, v_made, .int i_madeSize, v_base, .int i_baseSize, v_text, .int i_textSize, .int i_textSteps, v_other, .int i_otherSize, .ref hpc, .int (nI (q + (j - a))), .int i_at, .int i_end, .int i_value])), (hpc, .inl (cC, 600, .inl ((g))))]) [0, 1] rfl
      have hKc := hK.sub (tys' := [(cC, .byte)]) [0] rfl
      have hDc := hD.sub (ws' := [(h0, .inr (7, [.int i_thrown, .int i_down, .int i_lasts, .ref hbuf, .int i_size, .int i_documents, v_gone, v_first, v_many, v_lengths, v_authors, v_sums, v_row, v_made, .int i_madeSize, v_base, .int i_baseSize, v_text, .int i_textSize, .int i_textSteps, v_other, .int i_otherSize, .ref hpc, .int (nI (q + (j - a))), .int i_at, .int i_end, .int i_value])), (hpc, .inl (cC, 600, .inl ((g))))]) [0, 1] (by decide) rfl
      have hFc := va_free (wc := [(h0, .inr (7, [.int i_thrown, .int i_down, .int i_lasts, .ref hbuf, .int i_size, .int i_documents, v_gone, v_first, v_many, v_lengths, v_authors, v_sums, v_row, v_made, .int i_madeSize, v_base, .int i_baseSize, v_text, .int i_textSize, .int i_textSteps, v_other, .int i_otherSize, .ref hpc, .int (nI (q + (j - a))), .int i_at, .int i_end, .int i_value])), (hpc, .inl (cC, 600, .inl ((g))))]) hD hS hA [0, 1] rfl
      refine va_callv (va_runV (As := [.int x_2]) (rest := []) ⟨hx, hb, hml, hown, hw0⟩ (o_put l dC dI H.size h0 i_thrown i_down i_lasts (.ref hbuf) i_size i_documents v_gone v_first v_many v_lengths v_authors v_sums v_row v_made i_madeSize v_base i_baseSize v_text i_textSize i_textSteps v_other i_otherSize i_at i_end i_value hpc cC (q + (j - a)) (g) _ x_2 (by first | assumption | decide | omega) (by first | assumption | decide | omega)) (cwV 1 hw0 (gd_Vm wm_240 wm_241 wm_242 wm_243 wm_244) rfl rfl rfl (by decide +kernel) ⟨by decide +kernel, by decide +kernel⟩) (prV_E hPc hKc hDc hN (va_recv hKc hPc (ci := 7) (q0 := 0) rfl rfl)) rfl rfl hl.1 rfl (lv_room (Nat.le_of_ble_eq_true rfl)) d_O_inserts_28 ⟨by decide +kernel, by decide +kernel⟩) hS (fun q _ h => hFc q h) hFc (fun u t H1 locs ht hvm hw hB hz1 hk1 hS => ?_)
      obtain ⟨g2_3, hu_4, hP1, hK1, hD1⟩ := hB
      rw [ht] at hP1
      have hK1 := va_K.moved hvm.symm hK1
      try dsimp only at hw
      obtain ⟨hP, hD⟩ := va_join (wr := [(hbuf, .inl (cB, 256, .inl (f)))]) (w1 := [(h0, .inr (7, [.int i_thrown, .int i_down, .int i_lasts, .ref hbuf, .int i_size, .int i_documents, v_gone, v_first, v_many, v_lengths, v_authors, v_sums, v_row, v_made, .int i_madeSize, v_base, .int i_baseSize, v_text, .int i_textSize, .int i_textSteps, v_other, .int i_otherSize, .ref hpc, .int (nI ((q + (j - a)) + 1)), .int i_at, .int i_end, .int i_value])), (hpc, .inl (cC, 600, .inl (g2_3)))]) hP hD [0, 1] [2] rfl rfl (by decide) (by decide) hk1 hFc hP1 hD1
      generalize H1 = H at hP hS ⊢
      replace hP : va_P (dC, dI) vwCl [(hbuf, .inl (cB, 256, .inl (f))), (h0, .inr (7, [.int i_thrown, .int i_down, .int i_lasts, .ref hbuf, .int i_size, .int i_documents, v_gone, v_first, v_many, v_lengths, v_authors, v_sums, v_row, v_made, .int i_madeSize, v_base, .int i_baseSize, v_text, .int i_textSize, .int i_textSteps, v_other, .int i_otherSize, .ref hpc, .int (nI ((q + (j - a)) + 1)), .int i_at, .int i_end, .int i_value])), (hpc, .inl (cC, 600, .inl (g2_3)))] H := hP
      replace hD : va_D A [(hbuf, .inl (cB, 256, .inl (f))), (h0, .inr (7, [.int i_thrown, .int i_down, .int i_lasts, .ref hbuf, .int i_size, .int i_documents, v_gone, v_first, v_many, v_lengths, v_authors, v_sums, v_row, v_made, .int i_madeSize, v_base, .int i_baseSize, v_text, .int i_textSize, .int i_textSteps, v_other, .int i_otherSize, .ref hpc, .int (nI ((q + (j - a)) + 1)), .int i_at, .int i_end, .int i_value])), (hpc, .inl (cC, 600, .inl (g2_3)))] := hD
      replace hK : va_K (dC, dI) vwCl [(cC, .byte), (cB, .byte)] s := hK
      refine lv_iinc (v := nI (j + 1)) (lv' := [(3, .int (nI (j + 1))), (0, .ref h0), (1, .int (nI a)), (2, .int (nI b))]) hx hb d_O_inserts_31 hl (k := 0) rfl (nI_1 j) (by decide) rfl (fun ls hl => ?_)
      refine lv_goto (tgt := 16) hx hb d_O_inserts_34 (by decide) ?_
      have eq9 : q + (j - a) + 1 = q + (j + 1 - a) := by omega
      rw [eq9] at hP hD hu_4
      exact ih (j + 1) hlt (by omega) g2_3 (by omega) (y_ins htx hk hf0 (by omega) ex_2 hu_4) _ _ (hP.sub (ws' := [(h0, .inr (7, [.int i_thrown, .int i_down, .int i_lasts, .ref hbuf, .int i_size, .int i_documents, v_gone, v_first, v_many, v_lengths, v_authors, v_sums, v_row, v_made, .int i_madeSize, v_base, .int i_baseSize, v_text, .int i_textSize, .int i_textSteps, v_other, .int i_otherSize, .ref hpc, .int (nI (q + ((j + 1) - a))), .int i_at, .int i_end, .int i_value])), (hpc, .inl (cC, 600, .inl (g2_3))), (hbuf, .inl (cB, 256, .inl (f)))]) [1, 2, 0] rfl) (hD.sub (ws' := [(h0, .inr (7, [.int i_thrown, .int i_down, .int i_lasts, .ref hbuf, .int i_size, .int i_documents, v_gone, v_first, v_many, v_lengths, v_authors, v_sums, v_row, v_made, .int i_madeSize, v_base, .int i_baseSize, v_text, .int i_textSize, .int i_textSteps, v_other, .int i_otherSize, .ref hpc, .int (nI (q + ((j + 1) - a))), .int i_at, .int i_end, .int i_value])), (hpc, .inl (cC, 600, .inl (g2_3))), (hbuf, .inl (cB, 256, .inl (f)))]) [1, 2, 0] (by decide) rfl) hS ls (lv_sub hl [0, 1, 2, 3] rfl)
set_option maxHeartbeats 4000000 in
set_option maxRecDepth 100000 in
theorem o_inserts (l : Launch) (dC : Nat → ClassId) (dI : Nat → Nat → Nat) (sz : Nat) (h0 : Nat) (i_thrown : Int32) (i_down : Int32) (i_lasts : Int32) (i_size : Int32) (i_documents : Int32) (v_gone : Value) (v_first : Value) (v_many : Value) (v_lengths : Value) (v_authors : Value) (v_sums : Value) (v_row : Value) (v_made : Value) (i_madeSize : Int32) (v_base : Value) (i_baseSize : Int32) (v_text : Value) (i_textSize : Int32) (i_textSteps : Int32) (v_other : Value) (i_otherSize : Int32) (i_at : Int32) (i_end : Int32) (i_value : Int32) (hpc : Nat) (cC : ClassId) (q : Nat) (g : Nat → Int32) (P : List Int32) (hbuf : Nat) (cB : ClassId) (k : Nat) (f : Nat → Int32) (L : List Int32) (a : Nat) (b : Nat) (hp : tx P q g) (htx : tx L k f) (hk : k ≤ 256) (ha9 : a ≤ k) (hb9 : b ≤ k) (hq : a < b → q + 2 + (b - a) ≤ 600) : Met l y_O_inserts k_O_inserts ({ frames := 2, cells := 0, slots := 0, locals := 43 } : Room) (va_Pc [.ref h0, .int (nI a), .int (nI b)] (pc_E (dC, dI) [(h0, .inr (7, [.int i_thrown, .int i_down, .int i_lasts, .ref hbuf, .int i_size, .int i_documents, v_gone, v_first, v_many, v_lengths, v_authors, v_sums, v_row, v_made, .int i_madeSize, v_base, .int i_baseSize, v_text, .int i_textSize, .int i_textSteps, v_other, .int i_otherSize, .ref hpc, .int (nI q), .int i_at, .int i_end, .int i_value])), (hpc, .inl (cC, 600, .inl (g))), (hbuf, .inl (cB, 256, .inl (f)))] [(cC, .byte), (cB, .byte)] sz)) (va_Qv (fun (_ : Unit) => True) (fun (_ : Unit) t => ∃ (q2 : Nat) (g2 : Nat → Int32), (q2 = q + (insE L a b).length ∧ tx (P ++ insE L a b) q2 g2) ∧ at_E (dC, dI) (va_A [(h0, .inr (7, [.int i_thrown, .int i_down, .int i_lasts, .ref hbuf, .int i_size, .int i_documents, v_gone, v_first, v_many, v_lengths, v_authors, v_sums, v_row, v_made, .int i_madeSize, v_base, .int i_baseSize, v_text, .int i_textSize, .int i_textSteps, v_other, .int i_otherSize, .ref hpc, .int (nI q), .int i_at, .int i_end, .int i_value])), (hpc, .inl (cC, 600, .inl (g))), (hbuf, .inl (cB, 256, .inl (f)))] sz) [(h0, .inr (7, [.int i_thrown, .int i_down, .int i_lasts, .ref hbuf, .int i_size, .int i_documents, v_gone, v_first, v_many, v_lengths, v_authors, v_sums, v_row, v_made, .int i_madeSize, v_base, .int i_baseSize, v_text, .int i_textSize, .int i_textSteps, v_other, .int i_otherSize, .ref hpc, .int (nI q2), .int i_at, .int i_end, .int i_value])), (hpc, .inl (cC, 600, .inl (g2))), (hbuf, .inl (cB, 256, .inl (f)))] [(cC, .byte), (cB, .byte)] t) (va_A [(h0, .inr (7, [.int i_thrown, .int i_down, .int i_lasts, .ref hbuf, .int i_size, .int i_documents, v_gone, v_first, v_many, v_lengths, v_authors, v_sums, v_row, v_made, .int i_madeSize, v_base, .int i_baseSize, v_text, .int i_textSize, .int i_textSteps, v_other, .int i_otherSize, .ref hpc, .int (nI q), .int i_at, .int i_end, .int i_value])), (hpc, .inl (cC, 600, .inl (g))), (hbuf, .inl (cB, 256, .inl (f)))] sz)) 0 0 (va_A [(h0, .inr (7, [.int i_thrown, .int i_down, .int i_lasts, .ref hbuf, .int i_size, .int i_documents, v_gone, v_first, v_many, v_lengths, v_authors, v_sums, v_row, v_made, .int i_madeSize, v_base, .int i_baseSize, v_text, .int i_textSize, .int i_textSteps, v_other, .int i_otherSize, .ref hpc, .int (nI q), .int i_at, .int i_end, .int i_value])), (hpc, .inl (cC, 600, .inl (g))), (hbuf, .inl (cB, 256, .inl (f)))] sz) := by
  refine Met.ofW (cc := prog_9_method_23_code) (maxL := 4) (ret := none) (by decide) rfl ?_
  intro p e s m args below meth c s₁ B hml hv
  obtain ⟨rfl, hsz, hP, hK, hD0, hN⟩ := hv
  have hx := B.exec
  have hb := B.bytes
  have hr := B.returns
  have hts := atoms_spec (ws := k_O_inserts) B.pre
  have hw0 : ∀ w ∈ w0, w.before _ s = true := fun w h => hts w (List.mem_cons_of_mem _ h)
  have hown : s.vm.findClass R_O = some m.cls := findClass_of_methodNamed B.named
  have hlocks := B.notSynchronized
  subst hsz
  have hD := hD0.self (sz := s.heap.size)
  generalize hAe : va_A [(h0, .inr (7, [.int i_thrown, .int i_down, .int i_lasts, .ref hbuf, .int i_size, .int i_documents, v_gone, v_first, v_many, v_lengths, v_authors, v_sums, v_row, v_made, .int i_madeSize, v_base, .int i_baseSize, v_text, .int i_textSize, .int i_textSteps, v_other, .int i_otherSize, .ref hpc, .int (nI q), .int i_at, .int i_end, .int i_value])), (hpc, .inl (cC, 600, .inl (g))), (hbuf, .inl (cB, 256, .inl (f)))] s.heap.size = A at hD ⊢
  have hA : ∀ q : Nat, s.heap.size ≤ q → A q := fun q h => by rw [← hAe]; exact Or.inr h
  have hS : va_S A s.heap s.heap [] := va_S.rf
  have hP : va_P (dC, dI) vwCl [(h0, .inr (7, [.int i_thrown, .int i_down, .int i_lasts, .ref hbuf, .int i_size, .int i_documents, v_gone, v_first, v_many, v_lengths, v_authors, v_sums, v_row, v_made, .int i_madeSize, v_base, .int i_baseSize, v_text, .int i_textSize, .int i_textSteps, v_other, .int i_otherSize, .ref hpc, .int (nI q), .int i_at, .int i_end, .int i_value])), (hpc, .inl (cC, 600, .inl (g))), (hbuf, .inl (cB, 256, .inl (f)))] s.heap := hP
  have hl := lv_entry ([.ref h0, .int (nI a), .int (nI b)]) (n := 4) (Nat.le_of_ble_eq_true rfl)
  rw [lg_entry_eq]
  generalize (lg_sl ([.ref h0, .int (nI a), .int (nI b)]) ++ List.replicate (4 - (lg_sl ([.ref h0, .int (nI a), .int (nI b)])).length) Slot.unset).toArray = ls at hl ⊢
  have hl : lv_has ls 4 [(0, .ref h0), (1, .int (nI a)), (2, .int (nI b))] := hl
  refine lv_iload_n hx hb d_O_inserts_0 rfl (lv_at hl 1 rfl) ?_
  refine lv_iload_n hx hb d_O_inserts_1 rfl (lv_at hl 2 rfl) ?_
  refine lv_icmp_ge (tgt := 37) hx hb d_O_inserts_2 (by decide) (fun c_1 => ?_) (fun c_1 => ?_)
  · have h9 := hk
    have hP9 := hP.sub (ws' := [(h0, .inr (7, [.int i_thrown, .int i_down, .int i_lasts, .ref hbuf, .int i_size, .int i_documents, v_gone, v_first, v_many, v_lengths, v_authors, v_sums, v_row, v_made, .int i_madeSize, v_base, .int i_baseSize, v_text, .int i_textSize, .int i_textSteps, v_other, .int i_otherSize, .ref hpc, .int (nI q), .int i_at, .int i_end, .int i_value])), (hpc, .inl (cC, 600, .inl (g))), (hbuf, .inl (cB, 256, .inl (f)))]) [0, 1, 2] rfl
    have hD9 := hD.sub (ws' := [(h0, .inr (7, [.int i_thrown, .int i_down, .int i_lasts, .ref hbuf, .int i_size, .int i_documents, v_gone, v_first, v_many, v_lengths, v_authors, v_sums, v_row, v_made, .int i_madeSize, v_base, .int i_baseSize, v_text, .int i_textSize, .int i_textSteps, v_other, .int i_otherSize, .ref hpc, .int (nI q), .int i_at, .int i_end, .int i_value])), (hpc, .inl (cC, 600, .inl (g))), (hbuf, .inl (cB, 256, .inl (f)))]) [0, 1, 2] (by decide) rfl
    have hK9 := hK.sub (tys' := [(cC, .byte), (cB, .byte)]) [0, 1] rfl
    exact W.vret hx hb hr (fun t ht hW => ⟨⟨(), rfl, trivial, q, g, (y_insF c_1 (by omega) (by omega) hp), by rw [ht]; exact hP9, va_K.moved hW.alike hK9, hD9⟩, hS.F ht⟩) hS.2.2 d_O_inserts_37
  · have hab : a < b := (by rcases Nat.lt_or_ge a b with z | z; exact z; exact absurd (nI_le z (by omega)) c_1); have hq8 := hq hab; have hd9 := dgt_le (2 * (b - a))
    refine lv_aload_n hx hb d_O_inserts_5 rfl (lv_at hl 0 rfl) ?_
    refine lv_iconst (v := 2) hx hb d_O_inserts_6 (by decide) ?_
    refine lv_iload_n hx hb d_O_inserts_7 rfl (lv_at hl 2 rfl) ?_
    refine lv_iload_n hx hb d_O_inserts_8 rfl (lv_at hl 1 rfl) ?_
    refine lv_isub hx hb d_O_inserts_9 ?_
    refine lv_topi (fun x_2 ex_2 => ?_)
    obtain rfl : x_2 = (nI (b - a)) := by rw [ex_2]; exact pk_sub (by omega)
    clear ex_2
    refine lv_imul hx hb d_O_inserts_10 ?_
    refine lv_topi (fun x_3 ex_3 => ?_)
    obtain rfl : x_3 = (nI (2 * (b - a))) := by rw [ex_3]; exact (show nI 2 * nI (b - a) = nI (2 * (b - a)) from pk_mul 2 (b - a))
    clear ex_3
    have hPc := hP.sub (ws' := [(h0, .inr (7, [.int i_thrown, .int i_down, .int i_lasts, .ref hbuf, .int i_size, .int i_documents, v_gone, v_first, v_many, v_lengths, v_authors, v_sums, v_row, v_made, .int i_madeSize, v_base, .int i_baseSize, v_text, .int i_textSize, .int i_textSteps, v_other, .int i_otherSize, .ref hpc, .int (nI q), .int i_at, .int i_end, .int i_value])), (hpc, .inl (cC, 600, .inl ((g))))]) [0, 1] rfl
    have hKc := hK.sub (tys' := [(cC, .byte)]) [0] rfl
    have hDc := hD.sub (ws' := [(h0, .inr (7, [.int i_thrown, .int i_down, .int i_lasts, .ref hbuf, .int i_size, .int i_documents, v_gone, v_first, v_many, v_lengths, v_authors, v_sums, v_row, v_made, .int i_madeSize, v_base, .int i_baseSize, v_text, .int i_textSize, .int i_textSteps, v_other, .int i_otherSize, .ref hpc, .int (nI q), .int i_at, .int i_end, .int i_value])), (hpc, .inl (cC, 600, .inl ((g))))]) [0, 1] (by decide) rfl
    have hFc := va_free (wc := [(h0, .inr (7, [.int i_thrown, .int i_down, .int i_lasts, .ref hbuf, .int i_size, .int i_documents, v_gone, v_first, v_many, v_lengths, v_authors, v_sums, v_row, v_made, .int i_madeSize, v_base, .int i_baseSize, v_text, .int i_textSize, .int i_textSteps, v_other, .int i_otherSize, .ref hpc, .int (nI q), .int i_at, .int i_end, .int i_value])), (hpc, .inl (cC, 600, .inl ((g))))]) hD hS hA [0, 1] rfl
    refine va_callv (va_runV (As := [.int (nI (2 * (b - a)))]) (rest := []) ⟨hx, hb, hml, hown, hw0⟩ (o_putNumber l dC dI s.heap.size h0 i_thrown i_down i_lasts (.ref hbuf) i_size i_documents v_gone v_first v_many v_lengths v_authors v_sums v_row v_made i_madeSize v_base i_baseSize v_text i_textSize i_textSteps v_other i_otherSize i_at i_end i_value hpc cC q (g) _ (2 * (b - a)) (by first | assumption | decide | omega) (by first | assumption | decide | omega) (by first | assumption | decide | omega)) (cwV 1 hw0 (gd_Vm wm_249 wm_250 wm_251 wm_243 wm_252) rfl rfl rfl (by decide +kernel) ⟨by decide +kernel, by decide +kernel⟩) (prV_E hPc hKc hDc hN (va_recv hKc hPc (ci := 7) (q0 := 0) rfl rfl)) rfl rfl hl.1 rfl (lv_room (Nat.le_of_ble_eq_true rfl)) d_O_inserts_11 ⟨by decide +kernel, by decide +kernel⟩) hS (fun q _ h => hFc q h) hFc (fun u t H1 locs ht hvm hw hB hz1 hk1 hS => ?_)
    obtain ⟨q2_4, g2_5, ⟨hu_6_0, hu_6_1⟩, hP1, hK1, hD1⟩ := hB
    rw [ht] at hP1
    have hK1 := va_K.moved hvm.symm hK1
    try dsimp only at hw
    obtain ⟨hP, hD⟩ := va_join (wr := [(hbuf, .inl (cB, 256, .inl (f)))]) (w1 := [(h0, .inr (7, [.int i_thrown, .int i_down, .int i_lasts, .ref hbuf, .int i_size, .int i_documents, v_gone, v_first, v_many, v_lengths, v_authors, v_sums, v_row, v_made, .int i_madeSize, v_base, .int i_baseSize, v_text, .int i_textSize, .int i_textSteps, v_other, .int i_otherSize, .ref hpc, .int (nI q2_4), .int i_at, .int i_end, .int i_value])), (hpc, .inl (cC, 600, .inl (g2_5)))]) hP hD [0, 1] [2] rfl rfl (by decide) (by decide) hk1 hFc hP1 hD1
    generalize H1 = H at hP hS ⊢
    replace hP : va_P (dC, dI) vwCl [(hbuf, .inl (cB, 256, .inl (f))), (h0, .inr (7, [.int i_thrown, .int i_down, .int i_lasts, .ref hbuf, .int i_size, .int i_documents, v_gone, v_first, v_many, v_lengths, v_authors, v_sums, v_row, v_made, .int i_madeSize, v_base, .int i_baseSize, v_text, .int i_textSize, .int i_textSteps, v_other, .int i_otherSize, .ref hpc, .int (nI q2_4), .int i_at, .int i_end, .int i_value])), (hpc, .inl (cC, 600, .inl (g2_5)))] H := hP
    replace hD : va_D A [(hbuf, .inl (cB, 256, .inl (f))), (h0, .inr (7, [.int i_thrown, .int i_down, .int i_lasts, .ref hbuf, .int i_size, .int i_documents, v_gone, v_first, v_many, v_lengths, v_authors, v_sums, v_row, v_made, .int i_madeSize, v_base, .int i_baseSize, v_text, .int i_textSize, .int i_textSteps, v_other, .int i_otherSize, .ref hpc, .int (nI q2_4), .int i_at, .int i_end, .int i_value])), (hpc, .inl (cC, 600, .inl (g2_5)))] := hD
    replace hK : va_K (dC, dI) vwCl [(cC, .byte), (cB, .byte)] s := hK
    refine lv_iload_n hx hb d_O_inserts_14 rfl (lv_at hl 1 rfl) ?_
    refine lv_istore_n (lv' := [(3, .int (nI a)), (0, .ref h0), (1, .int (nI a)), (2, .int (nI b))]) hx hb d_O_inserts_15 rfl hl (by decide) rfl (fun ls hl => ?_)
    have e0 : q2_4 + (a - a) = q2_4 := by omega
    have hu9 : tx ((P ++ encN (2 * (b - a))) ++ (L.drop a).take (a - a)) (q2_4 + (a - a)) g2_5 := by rw [e0, Nat.sub_self, List.take_zero, List.append_nil]; exact hu_6_1
    rw [← e0] at hP hD
    refine lo_ins h0 i_thrown i_down i_lasts i_size i_documents v_gone v_first v_many v_lengths v_authors v_sums v_row v_made i_madeSize v_base i_baseSize v_text i_textSize i_textSteps v_other i_otherSize i_at i_end i_value hpc cC q2_4 hbuf cB k f L a b (P ++ encN (2 * (b - a))) htx hk hb9 (by have h8 := dgt_le (2 * (b - a)); omega) hx hb hml hown hw0 hN (hK.sub (tys' := [(cC, .byte), (cB, .byte)]) [0, 1] rfl) hA (fun g9 hg8 hg9 H locs hP hD hS ls hl => ?_) (b + 1) a (by omega) (by omega) g2_5 (Nat.le_refl a) hu9 _ _ (hP.sub (ws' := [(h0, .inr (7, [.int i_thrown, .int i_down, .int i_lasts, .ref hbuf, .int i_size, .int i_documents, v_gone, v_first, v_many, v_lengths, v_authors, v_sums, v_row, v_made, .int i_madeSize, v_base, .int i_baseSize, v_text, .int i_textSize, .int i_textSteps, v_other, .int i_otherSize, .ref hpc, .int (nI (q2_4 + (a - a))), .int i_at, .int i_end, .int i_value])), (hpc, .inl (cC, 600, .inl (g2_5))), (hbuf, .inl (cB, 256, .inl (f)))]) [1, 2, 0] rfl) (hD.sub (ws' := [(h0, .inr (7, [.int i_thrown, .int i_down, .int i_lasts, .ref hbuf, .int i_size, .int i_documents, v_gone, v_first, v_many, v_lengths, v_authors, v_sums, v_row, v_made, .int i_madeSize, v_base, .int i_baseSize, v_text, .int i_textSize, .int i_textSteps, v_other, .int i_otherSize, .ref hpc, .int (nI (q2_4 + (a - a))), .int i_at, .int i_end, .int i_value])), (hpc, .inl (cC, 600, .inl (g2_5))), (hbuf, .inl (cB, 256, .inl (f)))]) [1, 2, 0] (by decide) rfl) hS ls (lv_sub hl [0, 1, 2, 3] rfl)
    replace hK := hK.sub (tys' := [(cC, .byte), (cB, .byte)]) [0, 1] rfl
    have hP9 := hP.sub (ws' := [(h0, .inr (7, [.int i_thrown, .int i_down, .int i_lasts, .ref hbuf, .int i_size, .int i_documents, v_gone, v_first, v_many, v_lengths, v_authors, v_sums, v_row, v_made, .int i_madeSize, v_base, .int i_baseSize, v_text, .int i_textSize, .int i_textSteps, v_other, .int i_otherSize, .ref hpc, .int (nI (q2_4 + (b - a))), .int i_at, .int i_end, .int i_value])), (hpc, .inl (cC, 600, .inl (g9))), (hbuf, .inl (cB, 256, .inl (f)))]) [0, 1, 2] rfl
    have hD9 := hD.sub (ws' := [(h0, .inr (7, [.int i_thrown, .int i_down, .int i_lasts, .ref hbuf, .int i_size, .int i_documents, v_gone, v_first, v_many, v_lengths, v_authors, v_sums, v_row, v_made, .int i_madeSize, v_base, .int i_baseSize, v_text, .int i_textSize, .int i_textSteps, v_other, .int i_otherSize, .ref hpc, .int (nI (q2_4 + (b - a))), .int i_at, .int i_end, .int i_value])), (hpc, .inl (cC, 600, .inl (g9))), (hbuf, .inl (cB, 256, .inl (f)))]) [0, 1, 2] (by decide) rfl
    have hK9 := hK.sub (tys' := [(cC, .byte), (cB, .byte)]) [0, 1] rfl
    exact W.vret hx hb hr (fun t ht hW => ⟨⟨(), rfl, trivial, (q2_4 + (b - a)), g9, (x_insT hab (by rw [htx.1]; exact hb9) hu_6_0 hg9), by rw [ht]; exact hP9, va_K.moved hW.alike hK9, hD9⟩, hS.F ht⟩) hS.2.2 d_O_inserts_37
set_option maxHeartbeats 4000000 in
set_option maxRecDepth 100000 in
theorem lo_best {p : Program} {l : Launch} {e : Env} {s : State} {m : MethodId} {args : Array Value} {below : List Frame} {meth : Method} {c : Code} {dC : Nat → ClassId} {dI : Nat → Nat → Nat} {Q : State → Prop} {H : Heap} {locs : List Loc} (h0 : Nat) (i_thrown : Int32) (i_down : Int32) (i_lasts : Int32) (i_documents : Int32) (v_gone : Value) (v_first : Value) (v_many : Value) (v_lengths : Value) (v_authors : Value) (v_sums : Value) (v_row : Value) (v_base : Value) (i_baseSize : Int32) (v_text : Value) (i_textSize : Int32) (i_textSteps : Int32) (v_other : Value) (i_otherSize : Int32) (i_at : Int32) (i_end : Int32) (i_value : Int32) (hpc : Nat) (cC : ClassId) (q : Nat) (g : Nat → Int32) (hbuf : Nat) (cB : ClassId) (k : Nat) (f : Nat → Int32) (L : List Int32) (hmade : Nat) (cM : ClassId) (k2 : Nat) (fo : Nat → Int32) (L2 : List Int32) (i : Nat) (nw : Nat) (htx : tx L k f) (htx2 : tx L2 k2 fo) (hk : k ≤ 256) (hk2 : k2 ≤ 256) (hi : i ≤ k)
    (hx : p.tables.exec = Jvm.exec) (hb : c.code = prog_9_method_25_code) (hml : c.maxLocals = 7) (hown : s.vm.findClass R_O = some m.cls) (hw0 : ∀ w ∈ w0, w.before args s = true) (hN : nw_ok s) (hK : va_K (dC, dI) vwCl [(cC, .byte), (cB, .byte), (cM, .byte)] s) (hP : va_P (dC, dI) vwCl [(h0, .inr (7, [.int i_thrown, .int i_down, .int i_lasts, .ref hbuf, .int (nI k), .int i_documents, v_gone, v_first, v_many, v_lengths, v_authors, v_sums, v_row, .ref hmade, .int (nI k2), v_base, .int i_baseSize, v_text, .int i_textSize, .int i_textSteps, v_other, .int i_otherSize, .ref hpc, .int (nI q), .int i_at, .int i_end, .int i_value])), (hpc, .inl (cC, 600, .inl (g))), (hbuf, .inl (cB, 256, .inl (f))), (hmade, .inl (cM, 256, .inl (fo)))] H)
    (kk : ∀ ls : Array Slot, lv_has ls 7 [(5, .int (nI k2)), (3, .int (nI (bst L i L2 k2).1)), (4, .int (nI (bst L i L2 k2).2)), (0, .ref h0), (1, .int (nI nw)), (2, .int (nI i))] → W p l e ({ frames := 3, cells := 0, slots := 0, locals := 66 } : Room) s m args below meth c H locs 0 0 Q (F0 m 77 ls [])) :
    ∀ (n j : Nat), j ≤ k2 → k2 < j + n → ∀ ls : Array Slot, lv_has ls 7 [(5, .int (nI j)), (3, .int (nI (bst L i L2 j).1)), (4, .int (nI (bst L i L2 j).2)), (0, .ref h0), (1, .int (nI nw)), (2, .int (nI i))] → W p l e ({ frames := 3, cells := 0, slots := 0, locals := 66 } : Room) s m args below meth c H locs 0 0 Q (F0 m 25 ls []) := by
  intro n
  induction n with
  | zero => intro j  h1 h2; exact absurd h2 (by omega)
  | succ n ih =>
    intro j  hj hn  ls hl
    refine lv_iload hx hb d_O_pieces_25 (lv_at hl 0 rfl) ?_
    refine lv_aload_n hx hb d_O_pieces_27 rfl (lv_at hl 3 rfl) ?_
    refine va_get (D := (dC, dI)) (ci := 7) (v := .int (nI k2)) (C := R_O) (T := F_O) (N := 27) hx hb hw0 in_O hown hK hP 0 rfl rfl 14 (by decide) (hw0 (.fieldLink R_O 113 "TextKeeperModel" "madeSize" "I") wm_246) (fun _ h9 => h9) rfl d_O_pieces_28 ?_
    refine lv_icmp_ge (tgt := 77) hx hb d_O_pieces_31 (by decide) (fun c_1 => ?_) (fun c_1 => ?_)
    · obtain rfl : j = k2 := x_geN (by omega) hj c_1
      exact kk ls (lv_sub hl [0, 1, 2, 3, 4, 5] rfl)
    · have hlt : j < k2 := x_ltN (by omega) hj c_1
      refine lv_aload_n hx hb d_O_pieces_34 rfl (lv_at hl 3 rfl) ?_
      refine lv_iload_n hx hb d_O_pieces_35 rfl (lv_at hl 5 rfl) ?_
      refine lv_iload hx hb d_O_pieces_36 (lv_at hl 0 rfl) ?_
      have hPc := hP.sub (ws' := [(h0, .inr (7, [.int i_thrown, .int i_down, .int i_lasts, .ref hbuf, .int (nI k), .int i_documents, v_gone, v_first, v_many, v_lengths, v_authors, v_sums, v_row, .ref hmade, .int (nI k2), v_base, .int i_baseSize, v_text, .int i_textSize, .int i_textSteps, v_other, .int i_otherSize, .ref hpc, .int (nI q), .int i_at, .int i_end, .int i_value])), (hbuf, .inl (cB, 256, .inl ((f)))), (hmade, .inl (cM, 256, .inl ((fo))))]) [0, 2, 3] rfl
      have hKc := hK.sub (tys' := [(cB, .byte), (cM, .byte)]) [1, 2] rfl
      refine ps_i (va_runV (As := [.int (nI i), .int (nI j)]) (rest := []) ⟨hx, hb, hml, hown, hw0⟩ (o_run l dC dI h0 i_thrown i_down i_lasts i_documents v_gone v_first v_many v_lengths v_authors v_sums v_row v_base i_baseSize v_text i_textSize i_textSteps v_other i_otherSize (.ref hpc) (nI q) i_at i_end i_value hbuf cB k (f) _ hmade cM k2 (fo) _ i j (by first | assumption | decide | omega) (by first | assumption | decide | omega) (by first | assumption | decide | omega) (by first | assumption | decide | omega) (by first | assumption | decide | omega) (by first | assumption | decide | omega)) (cwV 2 hw0 (gd_Vm wm_253 wm_254 wm_255 wm_243 wm_256) rfl rfl rfl (by decide +kernel) ⟨by decide +kernel, by decide +kernel⟩) (prV_R hPc hKc hN (va_recv hKc hPc (ci := 7) (q0 := 0) rfl rfl)) rfl rfl hl.1 rfl (lv_room (Nat.le_of_ble_eq_true rfl)) d_O_pieces_38 ⟨by decide +kernel, by decide +kernel⟩) (fun r_2 hr_2 => ?_)
      obtain rfl : r_2 = (nI (cpl (L.drop i) (L2.drop j))) := hr_2
      refine lv_istore (lv' := [(6, .int (nI (cpl (L.drop i) (L2.drop j)))), (5, .int (nI j)), (3, .int (nI (bst L i L2 j).1)), (4, .int (nI (bst L i L2 j).2)), (0, .ref h0), (1, .int (nI nw)), (2, .int (nI i))]) hx hb d_O_pieces_41 hl (by decide) rfl (fun ls hl => ?_)
      refine lv_iload hx hb d_O_pieces_43 (lv_at hl 0 rfl) ?_
      refine lv_iload_n hx hb d_O_pieces_45 rfl (lv_at hl 2 rfl) ?_
      refine lv_icmp_le (tgt := 54) hx hb d_O_pieces_46 (by decide) (fun c_3 => ?_) (fun c_3 => ?_)
      · refine lv_iload hx hb d_O_pieces_54 (lv_at hl 3 rfl) ?_
        refine lv_istore (lv' := [(4, .int (nI (bst L i L2 j).2)), (6, .int (nI (cpl (L.drop i) (L2.drop j)))), (5, .int (nI j)), (3, .int (nI (bst L i L2 j).1)), (0, .ref h0), (1, .int (nI nw)), (2, .int (nI i))]) hx hb d_O_pieces_56 hl (by decide) rfl (fun ls hl => ?_)
        refine lv_iload hx hb d_O_pieces_58 (lv_at hl 1 rfl) ?_
        refine lv_iload_n hx hb d_O_pieces_60 rfl (lv_at hl 3 rfl) ?_
        refine lv_icmp_le (tgt := 69) hx hb d_O_pieces_61 (by decide) (fun c_4 => ?_) (fun c_4 => absurd c_3 c_4)
        refine lv_iload_n hx hb d_O_pieces_69 rfl (lv_at hl 3 rfl) ?_
        refine lv_istore_n (lv' := [(3, .int (nI (bst L i L2 j).1)), (4, .int (nI (bst L i L2 j).2)), (6, .int (nI (cpl (L.drop i) (L2.drop j)))), (5, .int (nI j)), (0, .ref h0), (1, .int (nI nw)), (2, .int (nI i))]) hx hb d_O_pieces_70 rfl hl (by decide) rfl (fun ls hl => ?_)
        refine lv_iinc (v := nI (j + 1)) (lv' := [(5, .int (nI (j + 1))), (3, .int (nI (bst L i L2 j).1)), (4, .int (nI (bst L i L2 j).2)), (6, .int (nI (cpl (L.drop i) (L2.drop j)))), (0, .ref h0), (1, .int (nI nw)), (2, .int (nI i))]) hx hb d_O_pieces_71 hl (k := 3) rfl (nI_1 j) (by decide) rfl (fun ls hl => ?_)
        refine lv_goto (tgt := 25) hx hb d_O_pieces_74 (by decide) ?_
        exact ih (j + 1) hlt (by omega) ls (by rw [bst_le ((nI_leI (by have := cpl_le1 (L.drop i) (L2.drop j); rw [List.length_drop, htx.1] at this; omega) (by have := bst_le1 L i L2 j; rw [htx.1] at this; omega)).mp c_3)]; exact (lv_sub hl [0, 1, 2, 4, 5, 6] rfl))
      · refine lv_iload hx hb d_O_pieces_49 (lv_at hl 1 rfl) ?_
        refine lv_goto (tgt := 56) hx hb d_O_pieces_51 (by decide) ?_
        refine lv_istore (lv' := [(4, .int (nI j)), (6, .int (nI (cpl (L.drop i) (L2.drop j)))), (5, .int (nI j)), (3, .int (nI (bst L i L2 j).1)), (0, .ref h0), (1, .int (nI nw)), (2, .int (nI i))]) hx hb d_O_pieces_56 hl (by decide) rfl (fun ls hl => ?_)
        refine lv_iload hx hb d_O_pieces_58 (lv_at hl 1 rfl) ?_
        refine lv_iload_n hx hb d_O_pieces_60 rfl (lv_at hl 3 rfl) ?_
        refine lv_icmp_le (tgt := 69) hx hb d_O_pieces_61 (by decide) (fun c_5 => absurd c_5 c_3) (fun c_5 => ?_)
        refine lv_iload hx hb d_O_pieces_64 (lv_at hl 1 rfl) ?_
        refine lv_goto (tgt := 70) hx hb d_O_pieces_66 (by decide) ?_
        refine lv_istore_n (lv' := [(3, .int (nI (cpl (L.drop i) (L2.drop j)))), (4, .int (nI j)), (6, .int (nI (cpl (L.drop i) (L2.drop j)))), (5, .int (nI j)), (0, .ref h0), (1, .int (nI nw)), (2, .int (nI i))]) hx hb d_O_pieces_70 rfl hl (by decide) rfl (fun ls hl => ?_)
        refine lv_iinc (v := nI (j + 1)) (lv' := [(5, .int (nI (j + 1))), (3, .int (nI (cpl (L.drop i) (L2.drop j)))), (4, .int (nI j)), (6, .int (nI (cpl (L.drop i) (L2.drop j)))), (0, .ref h0), (1, .int (nI nw)), (2, .int (nI i))]) hx hb d_O_pieces_71 hl (k := 3) rfl (nI_1 j) (by decide) rfl (fun ls hl => ?_)
        refine lv_goto (tgt := 25) hx hb d_O_pieces_74 (by decide) ?_
        exact ih (j + 1) hlt (by omega) ls (by rw [bst_gt (mt (nI_leI (by have := cpl_le1 (L.drop i) (L2.drop j); rw [List.length_drop, htx.1] at this; omega) (by have := bst_le1 L i L2 j; rw [htx.1] at this; omega)).mpr c_3)]; exact (lv_sub hl [0, 1, 2, 4, 5, 6] rfl))
set_option maxHeartbeats 4000000 in
set_option maxRecDepth 100000 in
theorem lo_dif {p : Program} {l : Launch} {e : Env} {s : State} {m : MethodId} {args : Array Value} {below : List Frame} {meth : Method} {c : Code} {dC : Nat → ClassId} {dI : Nat → Nat → Nat} {A : Nat → Prop} {Q : State → Prop} (h0 : Nat) (i_thrown : Int32) (i_down : Int32) (i_lasts : Int32) (i_documents : Int32) (v_gone : Value) (v_first : Value) (v_many : Value) (v_lengths : Value) (v_authors : Value) (v_sums : Value) (v_row : Value) (v_base : Value) (i_baseSize : Int32) (v_text : Value) (i_textSize : Int32) (i_textSteps : Int32) (v_other : Value) (i_otherSize : Int32) (i_at : Int32) (i_end : Int32) (i_value : Int32) (hpc : Nat) (cC : ClassId) (hbuf : Nat) (cB : ClassId) (k : Nat) (f : Nat → Int32) (L : List Int32) (hmade : Nat) (cM : ClassId) (k2 : Nat) (fo : Nat → Int32) (L2 : List Int32) (D : List Int32) (htx : tx L k f) (htx2 : tx L2 k2 fo) (hk : k ≤ 256) (hk2 : k2 ≤ 256)
    (hx : p.tables.exec = Jvm.exec) (hb : c.code = prog_9_method_25_code) (hml : c.maxLocals = 7) (hown : s.vm.findClass R_O = some m.cls) (hw0 : ∀ w ∈ w0, w.before args s = true) (hN : nw_ok s) (hK : va_K (dC, dI) vwCl [(cC, .byte), (cB, .byte), (cM, .byte)] s) (hA : ∀ q : Nat, s.heap.size ≤ q → A q)
    (kk : ∀ (nw : Nat) (q : Nat) (g : Nat → Int32) (P : List Int32) (F : Nat), (nw ≤ k) → (tx P q g) → (q ≤ 2 * nw) → (k ≤ k + F) → (P ++ dif L L2 F k nw = D) → ∀ (H : Heap) (locs : List Loc), va_P (dC, dI) vwCl [(h0, .inr (7, [.int i_thrown, .int i_down, .int i_lasts, .ref hbuf, .int (nI k), .int i_documents, v_gone, v_first, v_many, v_lengths, v_authors, v_sums, v_row, .ref hmade, .int (nI k2), v_base, .int i_baseSize, v_text, .int i_textSize, .int i_textSteps, v_other, .int i_otherSize, .ref hpc, .int (nI q), .int i_at, .int i_end, .int i_value])), (hpc, .inl (cC, 600, .inl (g))), (hbuf, .inl (cB, 256, .inl (f))), (hmade, .inl (cM, 256, .inl (fo)))] H → va_D A [(h0, .inr (7, [.int i_thrown, .int i_down, .int i_lasts, .ref hbuf, .int (nI k), .int i_documents, v_gone, v_first, v_many, v_lengths, v_authors, v_sums, v_row, .ref hmade, .int (nI k2), v_base, .int i_baseSize, v_text, .int i_textSize, .int i_textSteps, v_other, .int i_otherSize, .ref hpc, .int (nI q), .int i_at, .int i_end, .int i_value])), (hpc, .inl (cC, 600, .inl (g))), (hbuf, .inl (cB, 256, .inl (f))), (hmade, .inl (cM, 256, .inl (fo)))] → va_S A s.heap H locs → ∀ ls : Array Slot, lv_has ls 7 [(2, .int (nI k)), (1, .int (nI nw)), (0, .ref h0)] → W p l e ({ frames := 3, cells := 0, slots := 0, locals := 66 } : Room) s m args below meth c H locs 0 0 Q (F0 m 118 ls [])) :
    ∀ (n j : Nat), j ≤ k → k < j + n → ∀ (nw : Nat) (q : Nat) (g : Nat → Int32) (P : List Int32) (F : Nat), (nw ≤ j) → (tx P q g) → (q ≤ 2 * nw) → (k ≤ j + F) → (P ++ dif L L2 F j nw = D) → ∀ (H : Heap) (locs : List Loc), va_P (dC, dI) vwCl [(h0, .inr (7, [.int i_thrown, .int i_down, .int i_lasts, .ref hbuf, .int (nI k), .int i_documents, v_gone, v_first, v_many, v_lengths, v_authors, v_sums, v_row, .ref hmade, .int (nI k2), v_base, .int i_baseSize, v_text, .int i_textSize, .int i_textSteps, v_other, .int i_otherSize, .ref hpc, .int (nI q), .int i_at, .int i_end, .int i_value])), (hpc, .inl (cC, 600, .inl (g))), (hbuf, .inl (cB, 256, .inl (f))), (hmade, .inl (cM, 256, .inl (fo)))] H → va_D A [(h0, .inr (7, [.int i_thrown, .int i_down, .int i_lasts, .ref hbuf, .int (nI k), .int i_documents, v_gone, v_first, v_many, v_lengths, v_authors, v_sums, v_row, .ref hmade, .int (nI k2), v_base, .int i_baseSize, v_text, .int i_textSize, .int i_textSteps, v_other, .int i_otherSize, .ref hpc, .int (nI q), .int i_at, .int i_end, .int i_value])), (hpc, .inl (cC, 600, .inl (g))), (hbuf, .inl (cB, 256, .inl (f))), (hmade, .inl (cM, 256, .inl (fo)))] → va_S A s.heap H locs → ∀ ls : Array Slot, lv_has ls 7 [(2, .int (nI j)), (1, .int (nI nw)), (0, .ref h0)] → W p l e ({ frames := 3, cells := 0, slots := 0, locals := 66 } : Room) s m args below meth c H locs 0 0 Q (F0 m 9 ls []) := by
  intro n
  induction n with
  | zero => intro j h1 h2; exact absurd h2 (by omega)
  | succ n ih =>
    intro j hj hn nw q g P F hf0 hf1 hf2 hf3 hf4 H locs hP hD hS ls hl
    refine lv_iload_n hx hb d_O_pieces_9 rfl (lv_at hl 0 rfl) ?_
    refine lv_aload_n hx hb d_O_pieces_10 rfl (lv_at hl 2 rfl) ?_
    refine va_get (D := (dC, dI)) (ci := 7) (v := .int (nI k)) (C := R_O) (T := F_O) (N := 27) hx hb hw0 in_O hown hK hP 0 rfl rfl 4 (by decide) (hw0 (.fieldLink R_O 69 "TextKeeperModel" "size" "I") wm_245) (fun _ h9 => h9) rfl d_O_pieces_11 ?_
    refine lv_icmp_ge (tgt := 118) hx hb d_O_pieces_14 (by decide) (fun c_1 => ?_) (fun c_1 => ?_)
    · obtain rfl : j = k := x_geN (by omega) hj c_1
      exact kk nw q g P F hf0 hf1 hf2 hf3 hf4 _ _ hP hD hS ls (lv_sub hl [0, 1, 2] rfl)
    · have hlt : j < k := x_ltN (by omega) hj c_1; obtain ⟨F1, rfl⟩ : ∃ z, F = z + 1 := ⟨F - 1, by omega⟩; have hbl := (bst_lt L j L2 k2).1; have hcl : (bst L j L2 k2).1 ≤ k - j := (by have h8 := bst_le1 L j L2 k2; rw [htx.1] at h8; exact h8)
      refine lv_iconst (v := 0) hx hb d_O_pieces_17 (by decide) ?_
      refine lv_istore_n (lv' := [(3, .int 0), (2, .int (nI j)), (1, .int (nI nw)), (0, .ref h0)]) hx hb d_O_pieces_18 rfl hl (by decide) rfl (fun ls hl => ?_)
      refine lv_iconst (v := 0) hx hb d_O_pieces_19 (by decide) ?_
      refine lv_istore (lv' := [(4, .int 0), (3, .int 0), (2, .int (nI j)), (1, .int (nI nw)), (0, .ref h0)]) hx hb d_O_pieces_20 hl (by decide) rfl (fun ls hl => ?_)
      refine lv_iconst (v := 0) hx hb d_O_pieces_22 (by decide) ?_
      refine lv_istore (lv' := [(5, .int 0), (4, .int 0), (3, .int 0), (2, .int (nI j)), (1, .int (nI nw)), (0, .ref h0)]) hx hb d_O_pieces_23 hl (by decide) rfl (fun ls hl => ?_)
      refine lo_best h0 i_thrown i_down i_lasts i_documents v_gone v_first v_many v_lengths v_authors v_sums v_row v_base i_baseSize v_text i_textSize i_textSteps v_other i_otherSize i_at i_end i_value hpc cC q g hbuf cB k f L hmade cM k2 fo L2 j nw htx htx2 hk hk2 hj hx hb hml hown hw0 hN hK hP (fun ls hl => ?_) (k2 + 1) 0 (by omega) (by omega) ls (lv_sub hl [0, 2, 1, 5, 4, 3] rfl)
      refine lv_iload_n hx hb d_O_pieces_77 rfl (lv_at hl 1 rfl) ?_
      refine lv_iconst (v := 3) hx hb d_O_pieces_78 (by decide) ?_
      refine lv_icmp_le (tgt := 112) hx hb d_O_pieces_79 (by decide) (fun c_2 => ?_) (fun c_2 => ?_)
      · have hs9 : ¬ 4 ≤ (bst L j L2 k2).1 := (by have h8 := (nI_leI (by omega) (by decide)).mp (show nI (bst L j L2 k2).1 ≤ nI 3 from c_2); omega)
        refine lv_iinc (v := nI (j + 1)) (lv' := [(2, .int (nI (j + 1))), (5, .int (nI k2)), (3, .int (nI (bst L j L2 k2).1)), (4, .int (nI (bst L j L2 k2).2)), (0, .ref h0), (1, .int (nI nw))]) hx hb d_O_pieces_112 hl (k := 5) rfl (nI_1 j) (by decide) rfl (fun ls hl => ?_)
        refine lv_goto (tgt := 9) hx hb d_O_pieces_115 (by decide) ?_
        exact ih (j + 1) hlt (by omega) nw q g P F1 (by omega) hf1 hf2 (by omega) (by rw [← hf4, dif_skip1 htx2.1 (by rw [htx.1]; exact hlt) hs9]) _ _ (hP.sub (ws' := [(h0, .inr (7, [.int i_thrown, .int i_down, .int i_lasts, .ref hbuf, .int (nI k), .int i_documents, v_gone, v_first, v_many, v_lengths, v_authors, v_sums, v_row, .ref hmade, .int (nI k2), v_base, .int i_baseSize, v_text, .int i_textSize, .int i_textSteps, v_other, .int i_otherSize, .ref hpc, .int (nI q), .int i_at, .int i_end, .int i_value])), (hpc, .inl (cC, 600, .inl (g))), (hbuf, .inl (cB, 256, .inl (f))), (hmade, .inl (cM, 256, .inl (fo)))]) [0, 1, 2, 3] rfl) (hD.sub (ws' := [(h0, .inr (7, [.int i_thrown, .int i_down, .int i_lasts, .ref hbuf, .int (nI k), .int i_documents, v_gone, v_first, v_many, v_lengths, v_authors, v_sums, v_row, .ref hmade, .int (nI k2), v_base, .int i_baseSize, v_text, .int i_textSize, .int i_textSteps, v_other, .int i_otherSize, .ref hpc, .int (nI q), .int i_at, .int i_end, .int i_value])), (hpc, .inl (cC, 600, .inl (g))), (hbuf, .inl (cB, 256, .inl (f))), (hmade, .inl (cM, 256, .inl (fo)))]) [0, 1, 2, 3] (by decide) rfl) hS ls (lv_sub hl [0, 5, 4] rfl)
      · have h4 : 4 ≤ (bst L j L2 k2).1 ∧ (bst L j L2 k2).1 ≤ k - j := ⟨(by rcases Nat.lt_or_ge (bst L j L2 k2).1 4 with z | z; exact absurd (show nI (bst L j L2 k2).1 ≤ nI 3 from nI_le (by omega) (by decide)) c_2; exact z), hcl⟩; have hil := insE_len (L := L) (a := nw) (b := j) hf0 (by rw [htx.1]; omega); have hd1 := dgt_le (2 * (bst L j L2 k2).1 + 1); have hd2 := dgt_le (bst L j L2 k2).2; have hdi := dgt_ins (j - nw)
        refine lv_aload_n hx hb d_O_pieces_82 rfl (lv_at hl 3 rfl) ?_
        refine lv_iload_n hx hb d_O_pieces_83 rfl (lv_at hl 4 rfl) ?_
        refine lv_iload_n hx hb d_O_pieces_84 rfl (lv_at hl 5 rfl) ?_
        have hPc := hP.sub (ws' := [(h0, .inr (7, [.int i_thrown, .int i_down, .int i_lasts, .ref hbuf, .int (nI k), .int i_documents, v_gone, v_first, v_many, v_lengths, v_authors, v_sums, v_row, .ref hmade, .int (nI k2), v_base, .int i_baseSize, v_text, .int i_textSize, .int i_textSteps, v_other, .int i_otherSize, .ref hpc, .int (nI q), .int i_at, .int i_end, .int i_value])), (hpc, .inl (cC, 600, .inl ((g)))), (hbuf, .inl (cB, 256, .inl ((f))))]) [0, 1, 2] rfl
        have hKc := hK.sub (tys' := [(cC, .byte), (cB, .byte)]) [0, 1] rfl
        have hDc := hD.sub (ws' := [(h0, .inr (7, [.int i_thrown, .int i_down, .int i_lasts, .ref hbuf, .int (nI k), .int i_documents, v_gone, v_first, v_many, v_lengths, v_authors, v_sums, v_row, .ref hmade, .int (nI k2), v_base, .int i_baseSize, v_text, .int i_textSize, .int i_textSteps, v_other, .int i_otherSize, .ref hpc, .int (nI q), .int i_at, .int i_end, .int i_value])), (hpc, .inl (cC, 600, .inl ((g)))), (hbuf, .inl (cB, 256, .inl ((f))))]) [0, 1, 2] (by decide) rfl
        have hFc := va_free (wc := [(h0, .inr (7, [.int i_thrown, .int i_down, .int i_lasts, .ref hbuf, .int (nI k), .int i_documents, v_gone, v_first, v_many, v_lengths, v_authors, v_sums, v_row, .ref hmade, .int (nI k2), v_base, .int i_baseSize, v_text, .int i_textSize, .int i_textSteps, v_other, .int i_otherSize, .ref hpc, .int (nI q), .int i_at, .int i_end, .int i_value])), (hpc, .inl (cC, 600, .inl ((g)))), (hbuf, .inl (cB, 256, .inl ((f))))]) hD hS hA [0, 1, 2] rfl
        refine va_callv (va_runV (As := [.int (nI nw), .int (nI j)]) (rest := []) ⟨hx, hb, hml, hown, hw0⟩ (o_inserts l dC dI H.size h0 i_thrown i_down i_lasts (nI k) i_documents v_gone v_first v_many v_lengths v_authors v_sums v_row (.ref hmade) (nI k2) v_base i_baseSize v_text i_textSize i_textSteps v_other i_otherSize i_at i_end i_value hpc cC q (g) _ hbuf cB _ (f) _ nw j (by first | assumption | decide | omega) (by first | assumption | decide | omega) (by first | assumption | decide | omega) (by first | assumption | decide | omega) (by first | assumption | decide | omega) (by first | assumption | decide | omega)) (cwV 2 hw0 (gd_Vm wm_257 wm_258 wm_259 wm_243 wm_260) rfl rfl rfl (by decide +kernel) ⟨by decide +kernel, by decide +kernel⟩) (prV_E hPc hKc hDc hN (va_recv hKc hPc (ci := 7) (q0 := 0) rfl rfl)) rfl rfl hl.1 rfl (lv_room (Nat.le_of_ble_eq_true rfl)) d_O_pieces_85 ⟨by decide +kernel, by decide +kernel⟩) hS (fun q _ h => hFc q h) hFc (fun u t H1 locs ht hvm hw hB hz1 hk1 hS => ?_)
        obtain ⟨q2_3, g2_4, ⟨hu_5_0, hu_5_1⟩, hP1, hK1, hD1⟩ := hB
        rw [ht] at hP1
        have hK1 := va_K.moved hvm.symm hK1
        try dsimp only at hw
        obtain ⟨hP, hD⟩ := va_join (wr := [(hmade, .inl (cM, 256, .inl (fo)))]) (w1 := [(h0, .inr (7, [.int i_thrown, .int i_down, .int i_lasts, .ref hbuf, .int (nI k), .int i_documents, v_gone, v_first, v_many, v_lengths, v_authors, v_sums, v_row, .ref hmade, .int (nI k2), v_base, .int i_baseSize, v_text, .int i_textSize, .int i_textSteps, v_other, .int i_otherSize, .ref hpc, .int (nI q2_3), .int i_at, .int i_end, .int i_value])), (hpc, .inl (cC, 600, .inl (g2_4))), (hbuf, .inl (cB, 256, .inl ((f))))]) hP hD [0, 1, 2] [3] rfl rfl (by decide) (by decide) hk1 hFc hP1 hD1
        generalize H1 = H at hP hS ⊢
        replace hP : va_P (dC, dI) vwCl [(hmade, .inl (cM, 256, .inl (fo))), (h0, .inr (7, [.int i_thrown, .int i_down, .int i_lasts, .ref hbuf, .int (nI k), .int i_documents, v_gone, v_first, v_many, v_lengths, v_authors, v_sums, v_row, .ref hmade, .int (nI k2), v_base, .int i_baseSize, v_text, .int i_textSize, .int i_textSteps, v_other, .int i_otherSize, .ref hpc, .int (nI q2_3), .int i_at, .int i_end, .int i_value])), (hpc, .inl (cC, 600, .inl (g2_4))), (hbuf, .inl (cB, 256, .inl ((f))))] H := hP
        replace hD : va_D A [(hmade, .inl (cM, 256, .inl (fo))), (h0, .inr (7, [.int i_thrown, .int i_down, .int i_lasts, .ref hbuf, .int (nI k), .int i_documents, v_gone, v_first, v_many, v_lengths, v_authors, v_sums, v_row, .ref hmade, .int (nI k2), v_base, .int i_baseSize, v_text, .int i_textSize, .int i_textSteps, v_other, .int i_otherSize, .ref hpc, .int (nI q2_3), .int i_at, .int i_end, .int i_value])), (hpc, .inl (cC, 600, .inl (g2_4))), (hbuf, .inl (cB, 256, .inl ((f))))] := hD
        replace hK : va_K (dC, dI) vwCl [(cC, .byte), (cB, .byte), (cM, .byte)] s := hK
        refine lv_aload_n hx hb d_O_pieces_88 rfl (lv_at hl 3 rfl) ?_
        refine lv_iconst (v := 2) hx hb d_O_pieces_89 (by decide) ?_
        refine lv_iload_n hx hb d_O_pieces_90 rfl (lv_at hl 1 rfl) ?_
        refine lv_imul hx hb d_O_pieces_91 ?_
        refine lv_topi (fun x_6 ex_6 => ?_)
        obtain rfl : x_6 = (nI (2 * (bst L j L2 k2).1)) := by rw [ex_6]; exact (show nI 2 * nI _ = nI (2 * _) from pk_mul 2 _)
        clear ex_6
        refine lv_iconst (v := 1) hx hb d_O_pieces_92 (by decide) ?_
        refine lv_iadd hx hb d_O_pieces_93 ?_
        refine lv_topi (fun x_7 ex_7 => ?_)
        obtain rfl : x_7 = (nI (2 * (bst L j L2 k2).1 + 1)) := by rw [ex_7]; exact nI_1 _
        clear ex_7
        have hPc := hP.sub (ws' := [(h0, .inr (7, [.int i_thrown, .int i_down, .int i_lasts, .ref hbuf, .int (nI k), .int i_documents, v_gone, v_first, v_many, v_lengths, v_authors, v_sums, v_row, .ref hmade, .int (nI k2), v_base, .int i_baseSize, v_text, .int i_textSize, .int i_textSteps, v_other, .int i_otherSize, .ref hpc, .int (nI q2_3), .int i_at, .int i_end, .int i_value])), (hpc, .inl (cC, 600, .inl ((g2_4))))]) [1, 2] rfl
        have hKc := hK.sub (tys' := [(cC, .byte)]) [0] rfl
        have hDc := hD.sub (ws' := [(h0, .inr (7, [.int i_thrown, .int i_down, .int i_lasts, .ref hbuf, .int (nI k), .int i_documents, v_gone, v_first, v_many, v_lengths, v_authors, v_sums, v_row, .ref hmade, .int (nI k2), v_base, .int i_baseSize, v_text, .int i_textSize, .int i_textSteps, v_other, .int i_otherSize, .ref hpc, .int (nI q2_3), .int i_at, .int i_end, .int i_value])), (hpc, .inl (cC, 600, .inl ((g2_4))))]) [1, 2] (by decide) rfl
        have hFc := va_free (wc := [(h0, .inr (7, [.int i_thrown, .int i_down, .int i_lasts, .ref hbuf, .int (nI k), .int i_documents, v_gone, v_first, v_many, v_lengths, v_authors, v_sums, v_row, .ref hmade, .int (nI k2), v_base, .int i_baseSize, v_text, .int i_textSize, .int i_textSteps, v_other, .int i_otherSize, .ref hpc, .int (nI q2_3), .int i_at, .int i_end, .int i_value])), (hpc, .inl (cC, 600, .inl ((g2_4))))]) hD hS hA [1, 2] rfl
        refine va_callv (va_runV (As := [.int (nI (2 * (bst L j L2 k2).1 + 1))]) (rest := []) ⟨hx, hb, hml, hown, hw0⟩ (o_putNumber l dC dI H.size h0 i_thrown i_down i_lasts (.ref hbuf) (nI k) i_documents v_gone v_first v_many v_lengths v_authors v_sums v_row (.ref hmade) (nI k2) v_base i_baseSize v_text i_textSize i_textSteps v_other i_otherSize i_at i_end i_value hpc cC q2_3 (g2_4) _ (2 * (bst L j L2 k2).1 + 1) (by first | assumption | decide | omega) (by first | assumption | decide | omega) (by first | assumption | decide | omega)) (cwV 1 hw0 (gd_Vm wm_249 wm_250 wm_251 wm_243 wm_252) rfl rfl rfl (by decide +kernel) ⟨by decide +kernel, by decide +kernel⟩) (prV_E hPc hKc hDc hN (va_recv hKc hPc (ci := 7) (q0 := 0) rfl rfl)) rfl rfl hl.1 rfl (lv_room (Nat.le_of_ble_eq_true rfl)) d_O_pieces_94 ⟨by decide +kernel, by decide +kernel⟩) hS (fun q _ h => hFc q h) hFc (fun u t H1 locs ht hvm hw hB hz1 hk1 hS => ?_)
        obtain ⟨q2_8, g2_9, ⟨hu_10_0, hu_10_1⟩, hP1, hK1, hD1⟩ := hB
        rw [ht] at hP1
        have hK1 := va_K.moved hvm.symm hK1
        try dsimp only at hw
        obtain ⟨hP, hD⟩ := va_join (wr := [(hmade, .inl (cM, 256, .inl (fo))), (hbuf, .inl (cB, 256, .inl ((f))))]) (w1 := [(h0, .inr (7, [.int i_thrown, .int i_down, .int i_lasts, .ref hbuf, .int (nI k), .int i_documents, v_gone, v_first, v_many, v_lengths, v_authors, v_sums, v_row, .ref hmade, .int (nI k2), v_base, .int i_baseSize, v_text, .int i_textSize, .int i_textSteps, v_other, .int i_otherSize, .ref hpc, .int (nI q2_8), .int i_at, .int i_end, .int i_value])), (hpc, .inl (cC, 600, .inl (g2_9)))]) hP hD [1, 2] [0, 3] rfl rfl (by decide) (by decide) hk1 hFc hP1 hD1
        generalize H1 = H at hP hS ⊢
        replace hP : va_P (dC, dI) vwCl [(hmade, .inl (cM, 256, .inl (fo))), (hbuf, .inl (cB, 256, .inl ((f)))), (h0, .inr (7, [.int i_thrown, .int i_down, .int i_lasts, .ref hbuf, .int (nI k), .int i_documents, v_gone, v_first, v_many, v_lengths, v_authors, v_sums, v_row, .ref hmade, .int (nI k2), v_base, .int i_baseSize, v_text, .int i_textSize, .int i_textSteps, v_other, .int i_otherSize, .ref hpc, .int (nI q2_8), .int i_at, .int i_end, .int i_value])), (hpc, .inl (cC, 600, .inl (g2_9)))] H := hP
        replace hD : va_D A [(hmade, .inl (cM, 256, .inl (fo))), (hbuf, .inl (cB, 256, .inl ((f)))), (h0, .inr (7, [.int i_thrown, .int i_down, .int i_lasts, .ref hbuf, .int (nI k), .int i_documents, v_gone, v_first, v_many, v_lengths, v_authors, v_sums, v_row, .ref hmade, .int (nI k2), v_base, .int i_baseSize, v_text, .int i_textSize, .int i_textSteps, v_other, .int i_otherSize, .ref hpc, .int (nI q2_8), .int i_at, .int i_end, .int i_value])), (hpc, .inl (cC, 600, .inl (g2_9)))] := hD
        replace hK : va_K (dC, dI) vwCl [(cC, .byte), (cB, .byte), (cM, .byte)] s := hK
        refine lv_aload_n hx hb d_O_pieces_97 rfl (lv_at hl 3 rfl) ?_
        refine lv_iload hx hb d_O_pieces_98 (lv_at hl 2 rfl) ?_
        have hPc := hP.sub (ws' := [(h0, .inr (7, [.int i_thrown, .int i_down, .int i_lasts, .ref hbuf, .int (nI k), .int i_documents, v_gone, v_first, v_many, v_lengths, v_authors, v_sums, v_row, .ref hmade, .int (nI k2), v_base, .int i_baseSize, v_text, .int i_textSize, .int i_textSteps, v_other, .int i_otherSize, .ref hpc, .int (nI q2_8), .int i_at, .int i_end, .int i_value])), (hpc, .inl (cC, 600, .inl ((g2_9))))]) [2, 3] rfl
        have hKc := hK.sub (tys' := [(cC, .byte)]) [0] rfl
        have hDc := hD.sub (ws' := [(h0, .inr (7, [.int i_thrown, .int i_down, .int i_lasts, .ref hbuf, .int (nI k), .int i_documents, v_gone, v_first, v_many, v_lengths, v_authors, v_sums, v_row, .ref hmade, .int (nI k2), v_base, .int i_baseSize, v_text, .int i_textSize, .int i_textSteps, v_other, .int i_otherSize, .ref hpc, .int (nI q2_8), .int i_at, .int i_end, .int i_value])), (hpc, .inl (cC, 600, .inl ((g2_9))))]) [2, 3] (by decide) rfl
        have hFc := va_free (wc := [(h0, .inr (7, [.int i_thrown, .int i_down, .int i_lasts, .ref hbuf, .int (nI k), .int i_documents, v_gone, v_first, v_many, v_lengths, v_authors, v_sums, v_row, .ref hmade, .int (nI k2), v_base, .int i_baseSize, v_text, .int i_textSize, .int i_textSteps, v_other, .int i_otherSize, .ref hpc, .int (nI q2_8), .int i_at, .int i_end, .int i_value])), (hpc, .inl (cC, 600, .inl ((g2_9))))]) hD hS hA [2, 3] rfl
        refine va_callv (va_runV (As := [.int (nI (bst L j L2 k2).2)]) (rest := []) ⟨hx, hb, hml, hown, hw0⟩ (o_putNumber l dC dI H.size h0 i_thrown i_down i_lasts (.ref hbuf) (nI k) i_documents v_gone v_first v_many v_lengths v_authors v_sums v_row (.ref hmade) (nI k2) v_base i_baseSize v_text i_textSize i_textSteps v_other i_otherSize i_at i_end i_value hpc cC q2_8 (g2_9) _ ((bst L j L2 k2).2) (by first | assumption | decide | omega) (by first | assumption | decide | omega) (by first | assumption | decide | omega)) (cwV 1 hw0 (gd_Vm wm_249 wm_250 wm_251 wm_243 wm_252) rfl rfl rfl (by decide +kernel) ⟨by decide +kernel, by decide +kernel⟩) (prV_E hPc hKc hDc hN (va_recv hKc hPc (ci := 7) (q0 := 0) rfl rfl)) rfl rfl hl.1 rfl (lv_room (Nat.le_of_ble_eq_true rfl)) d_O_pieces_100 ⟨by decide +kernel, by decide +kernel⟩) hS (fun q _ h => hFc q h) hFc (fun u t H1 locs ht hvm hw hB hz1 hk1 hS => ?_)
        obtain ⟨q2_11, g2_12, ⟨hu_13_0, hu_13_1⟩, hP1, hK1, hD1⟩ := hB
        rw [ht] at hP1
        have hK1 := va_K.moved hvm.symm hK1
        try dsimp only at hw
        obtain ⟨hP, hD⟩ := va_join (wr := [(hmade, .inl (cM, 256, .inl (fo))), (hbuf, .inl (cB, 256, .inl ((f))))]) (w1 := [(h0, .inr (7, [.int i_thrown, .int i_down, .int i_lasts, .ref hbuf, .int (nI k), .int i_documents, v_gone, v_first, v_many, v_lengths, v_authors, v_sums, v_row, .ref hmade, .int (nI k2), v_base, .int i_baseSize, v_text, .int i_textSize, .int i_textSteps, v_other, .int i_otherSize, .ref hpc, .int (nI q2_11), .int i_at, .int i_end, .int i_value])), (hpc, .inl (cC, 600, .inl (g2_12)))]) hP hD [2, 3] [0, 1] rfl rfl (by decide) (by decide) hk1 hFc hP1 hD1
        generalize H1 = H at hP hS ⊢
        replace hP : va_P (dC, dI) vwCl [(hmade, .inl (cM, 256, .inl (fo))), (hbuf, .inl (cB, 256, .inl ((f)))), (h0, .inr (7, [.int i_thrown, .int i_down, .int i_lasts, .ref hbuf, .int (nI k), .int i_documents, v_gone, v_first, v_many, v_lengths, v_authors, v_sums, v_row, .ref hmade, .int (nI k2), v_base, .int i_baseSize, v_text, .int i_textSize, .int i_textSteps, v_other, .int i_otherSize, .ref hpc, .int (nI q2_11), .int i_at, .int i_end, .int i_value])), (hpc, .inl (cC, 600, .inl (g2_12)))] H := hP
        replace hD : va_D A [(hmade, .inl (cM, 256, .inl (fo))), (hbuf, .inl (cB, 256, .inl ((f)))), (h0, .inr (7, [.int i_thrown, .int i_down, .int i_lasts, .ref hbuf, .int (nI k), .int i_documents, v_gone, v_first, v_many, v_lengths, v_authors, v_sums, v_row, .ref hmade, .int (nI k2), v_base, .int i_baseSize, v_text, .int i_textSize, .int i_textSteps, v_other, .int i_otherSize, .ref hpc, .int (nI q2_11), .int i_at, .int i_end, .int i_value])), (hpc, .inl (cC, 600, .inl (g2_12)))] := hD
        replace hK : va_K (dC, dI) vwCl [(cC, .byte), (cB, .byte), (cM, .byte)] s := hK
        refine lv_iload_n hx hb d_O_pieces_103 rfl (lv_at hl 5 rfl) ?_
        refine lv_iload_n hx hb d_O_pieces_104 rfl (lv_at hl 1 rfl) ?_
        refine lv_iadd hx hb d_O_pieces_105 ?_
        refine lv_topi (fun x_14 ex_14 => ?_)
        obtain rfl : x_14 = (nI (j + (bst L j L2 k2).1)) := by rw [ex_14]; exact nI_add j _
        clear ex_14
        refine lv_istore_n (lv' := [(2, .int (nI (j + (bst L j L2 k2).1))), (5, .int (nI k2)), (3, .int (nI (bst L j L2 k2).1)), (4, .int (nI (bst L j L2 k2).2)), (0, .ref h0), (1, .int (nI nw))]) hx hb d_O_pieces_106 rfl hl (by decide) rfl (fun ls hl => ?_)
        refine lv_iload_n hx hb d_O_pieces_107 rfl (lv_at hl 0 rfl) ?_
        refine lv_istore_n (lv' := [(1, .int (nI (j + (bst L j L2 k2).1))), (2, .int (nI (j + (bst L j L2 k2).1))), (5, .int (nI k2)), (3, .int (nI (bst L j L2 k2).1)), (4, .int (nI (bst L j L2 k2).2)), (0, .ref h0)]) hx hb d_O_pieces_108 rfl hl (by decide) rfl (fun ls hl => ?_)
        refine lv_goto (tgt := 115) hx hb d_O_pieces_109 (by decide) ?_
        refine lv_goto (tgt := 9) hx hb d_O_pieces_115 (by decide) ?_
        exact ih (j + (bst L j L2 k2).1) (by omega) (by omega) (j + (bst L j L2 k2).1) q2_11 g2_12 (((P ++ insE L nw j) ++ encN (2 * (bst L j L2 k2).1 + 1)) ++ encN (bst L j L2 k2).2) F1 (Nat.le_refl _) hu_13_1 (by omega) (by omega) (by rw [← hf4, dif_copy1 htx2.1 (by rw [htx.1]; exact hlt) h4.1]; simp only [List.append_assoc]) _ _ (hP.sub (ws' := [(h0, .inr (7, [.int i_thrown, .int i_down, .int i_lasts, .ref hbuf, .int (nI k), .int i_documents, v_gone, v_first, v_many, v_lengths, v_authors, v_sums, v_row, .ref hmade, .int (nI k2), v_base, .int i_baseSize, v_text, .int i_textSize, .int i_textSteps, v_other, .int i_otherSize, .ref hpc, .int (nI q2_11), .int i_at, .int i_end, .int i_value])), (hpc, .inl (cC, 600, .inl (g2_12))), (hbuf, .inl (cB, 256, .inl (f))), (hmade, .inl (cM, 256, .inl (fo)))]) [2, 3, 1, 0] rfl) (hD.sub (ws' := [(h0, .inr (7, [.int i_thrown, .int i_down, .int i_lasts, .ref hbuf, .int (nI k), .int i_documents, v_gone, v_first, v_many, v_lengths, v_authors, v_sums, v_row, .ref hmade, .int (nI k2), v_base, .int i_baseSize, v_text, .int i_textSize, .int i_textSteps, v_other, .int i_otherSize, .ref hpc, .int (nI q2_11), .int i_at, .int i_end, .int i_value])), (hpc, .inl (cC, 600, .inl (g2_12))), (hbuf, .inl (cB, 256, .inl (f))), (hmade, .inl (cM, 256, .inl (fo)))]) [2, 3, 1, 0] (by decide) rfl) hS ls (lv_sub hl [1, 0, 5] rfl)
set_option maxHeartbeats 4000000 in
set_option maxRecDepth 100000 in
theorem o_pieces (l : Launch) (dC : Nat → ClassId) (dI : Nat → Nat → Nat) (sz : Nat) (h0 : Nat) (i_thrown : Int32) (i_down : Int32) (i_lasts : Int32) (i_documents : Int32) (v_gone : Value) (v_first : Value) (v_many : Value) (v_lengths : Value) (v_authors : Value) (v_sums : Value) (v_row : Value) (v_base : Value) (i_baseSize : Int32) (v_text : Value) (i_textSize : Int32) (i_textSteps : Int32) (v_other : Value) (i_otherSize : Int32) (i_pieceSize : Int32) (i_at : Int32) (i_end : Int32) (i_value : Int32) (hpc : Nat) (cC : ClassId) (g : Nat → Int32) (hbuf : Nat) (cB : ClassId) (k : Nat) (f : Nat → Int32) (L : List Int32) (hmade : Nat) (cM : ClassId) (k2 : Nat) (fo : Nat → Int32) (L2 : List Int32) (htx : tx L k f) (htx2 : tx L2 k2 fo) (hk : k ≤ 256) (hk2 : k2 ≤ 256) : Met l y_O_pieces k_O_pieces ({ frames := 3, cells := 0, slots := 0, locals := 66 } : Room) (va_Pc [.ref h0] (pc_E (dC, dI) [(h0, .inr (7, [.int i_thrown, .int i_down, .int i_lasts, .ref hbuf, .int (nI k), .int i_documents, v_gone, v_first, v_many, v_lengths, v_authors, v_sums, v_row, .ref hmade, .int (nI k2), v_base, .int i_baseSize, v_text, .int i_textSize, .int i_textSteps, v_other, .int i_otherSize, .ref hpc, .int i_pieceSize, .int i_at, .int i_end, .int i_value])), (hpc, .inl (cC, 600, .inl (g))), (hbuf, .inl (cB, 256, .inl (f))), (hmade, .inl (cM, 256, .inl (fo)))] [(cC, .byte), (cB, .byte), (cM, .byte)] sz)) (va_Qv (fun (_ : Unit) => True) (fun (_ : Unit) t => ∃ (q2 : Nat) (g2 : Nat → Int32), (q2 ≤ 514 ∧ tx (pce L L2) q2 g2) ∧ at_E (dC, dI) (va_A [(h0, .inr (7, [.int i_thrown, .int i_down, .int i_lasts, .ref hbuf, .int (nI k), .int i_documents, v_gone, v_first, v_many, v_lengths, v_authors, v_sums, v_row, .ref hmade, .int (nI k2), v_base, .int i_baseSize, v_text, .int i_textSize, .int i_textSteps, v_other, .int i_otherSize, .ref hpc, .int i_pieceSize, .int i_at, .int i_end, .int i_value])), (hpc, .inl (cC, 600, .inl (g))), (hbuf, .inl (cB, 256, .inl (f))), (hmade, .inl (cM, 256, .inl (fo)))] sz) [(h0, .inr (7, [.int i_thrown, .int i_down, .int i_lasts, .ref hbuf, .int (nI k), .int i_documents, v_gone, v_first, v_many, v_lengths, v_authors, v_sums, v_row, .ref hmade, .int (nI k2), v_base, .int i_baseSize, v_text, .int i_textSize, .int i_textSteps, v_other, .int i_otherSize, .ref hpc, .int (nI q2), .int i_at, .int i_end, .int i_value])), (hpc, .inl (cC, 600, .inl (g2))), (hbuf, .inl (cB, 256, .inl (f))), (hmade, .inl (cM, 256, .inl (fo)))] [(cC, .byte), (cB, .byte), (cM, .byte)] t) (va_A [(h0, .inr (7, [.int i_thrown, .int i_down, .int i_lasts, .ref hbuf, .int (nI k), .int i_documents, v_gone, v_first, v_many, v_lengths, v_authors, v_sums, v_row, .ref hmade, .int (nI k2), v_base, .int i_baseSize, v_text, .int i_textSize, .int i_textSteps, v_other, .int i_otherSize, .ref hpc, .int i_pieceSize, .int i_at, .int i_end, .int i_value])), (hpc, .inl (cC, 600, .inl (g))), (hbuf, .inl (cB, 256, .inl (f))), (hmade, .inl (cM, 256, .inl (fo)))] sz)) 0 0 (va_A [(h0, .inr (7, [.int i_thrown, .int i_down, .int i_lasts, .ref hbuf, .int (nI k), .int i_documents, v_gone, v_first, v_many, v_lengths, v_authors, v_sums, v_row, .ref hmade, .int (nI k2), v_base, .int i_baseSize, v_text, .int i_textSize, .int i_textSteps, v_other, .int i_otherSize, .ref hpc, .int i_pieceSize, .int i_at, .int i_end, .int i_value])), (hpc, .inl (cC, 600, .inl (g))), (hbuf, .inl (cB, 256, .inl (f))), (hmade, .inl (cM, 256, .inl (fo)))] sz) := by
  refine Met.ofW (cc := prog_9_method_25_code) (maxL := 7) (ret := none) (by decide) rfl ?_
  intro p e s m args below meth c s₁ B hml hv
  obtain ⟨rfl, hsz, hP, hK, hD0, hN⟩ := hv
  have hx := B.exec
  have hb := B.bytes
  have hr := B.returns
  have hts := atoms_spec (ws := k_O_pieces) B.pre
  have hw0 : ∀ w ∈ w0, w.before _ s = true := fun w h => hts w (List.mem_cons_of_mem _ h)
  have hown : s.vm.findClass R_O = some m.cls := findClass_of_methodNamed B.named
  have hlocks := B.notSynchronized
  subst hsz
  have hD := hD0.self (sz := s.heap.size)
  generalize hAe : va_A [(h0, .inr (7, [.int i_thrown, .int i_down, .int i_lasts, .ref hbuf, .int (nI k), .int i_documents, v_gone, v_first, v_many, v_lengths, v_authors, v_sums, v_row, .ref hmade, .int (nI k2), v_base, .int i_baseSize, v_text, .int i_textSize, .int i_textSteps, v_other, .int i_otherSize, .ref hpc, .int i_pieceSize, .int i_at, .int i_end, .int i_value])), (hpc, .inl (cC, 600, .inl (g))), (hbuf, .inl (cB, 256, .inl (f))), (hmade, .inl (cM, 256, .inl (fo)))] s.heap.size = A at hD ⊢
  have hA : ∀ q : Nat, s.heap.size ≤ q → A q := fun q h => by rw [← hAe]; exact Or.inr h
  have hS : va_S A s.heap s.heap [] := va_S.rf
  have hP : va_P (dC, dI) vwCl [(h0, .inr (7, [.int i_thrown, .int i_down, .int i_lasts, .ref hbuf, .int (nI k), .int i_documents, v_gone, v_first, v_many, v_lengths, v_authors, v_sums, v_row, .ref hmade, .int (nI k2), v_base, .int i_baseSize, v_text, .int i_textSize, .int i_textSteps, v_other, .int i_otherSize, .ref hpc, .int i_pieceSize, .int i_at, .int i_end, .int i_value])), (hpc, .inl (cC, 600, .inl (g))), (hbuf, .inl (cB, 256, .inl (f))), (hmade, .inl (cM, 256, .inl (fo)))] s.heap := hP
  have hl := lv_entry ([.ref h0]) (n := 7) (Nat.le_of_ble_eq_true rfl)
  rw [lg_entry_eq]
  generalize (lg_sl ([.ref h0]) ++ List.replicate (7 - (lg_sl ([.ref h0])).length) Slot.unset).toArray = ls at hl ⊢
  have hl : lv_has ls 7 [(0, .ref h0)] := hl
  refine lv_aload_n hx hb d_O_pieces_0 rfl (lv_at hl 0 rfl) ?_
  refine lv_iconst (v := 0) hx hb d_O_pieces_1 (by decide) ?_
  refine va_put (D := (dC, dI)) (ci := 7) (v := .int 0) (ty := .int) (C := R_O) (T := F_O) (N := 27) hx hb hw0 in_O ft_O tk_O nk_O hown hK hP hD hS 0 rfl rfl 23 (by decide) (hw0 (.fieldLink R_O 125 "TextKeeperModel" "pieceSize" "I") wm_239) (fun _ h9 => h9) rfl (by decide +kernel) rfl rfl (Nat.le_of_ble_eq_true rfl) d_O_pieces_2 (fun H locs hP hD hS => ?_)
  replace hP : va_P (dC, dI) vwCl [(h0, .inr (7, [.int i_thrown, .int i_down, .int i_lasts, .ref hbuf, .int (nI k), .int i_documents, v_gone, v_first, v_many, v_lengths, v_authors, v_sums, v_row, .ref hmade, .int (nI k2), v_base, .int i_baseSize, v_text, .int i_textSize, .int i_textSteps, v_other, .int i_otherSize, .ref hpc, .int 0, .int i_at, .int i_end, .int i_value])), (hpc, .inl (cC, 600, .inl (g))), (hbuf, .inl (cB, 256, .inl (f))), (hmade, .inl (cM, 256, .inl (fo)))] H := hP
  replace hD : va_D A [(h0, .inr (7, [.int i_thrown, .int i_down, .int i_lasts, .ref hbuf, .int (nI k), .int i_documents, v_gone, v_first, v_many, v_lengths, v_authors, v_sums, v_row, .ref hmade, .int (nI k2), v_base, .int i_baseSize, v_text, .int i_textSize, .int i_textSteps, v_other, .int i_otherSize, .ref hpc, .int 0, .int i_at, .int i_end, .int i_value])), (hpc, .inl (cC, 600, .inl (g))), (hbuf, .inl (cB, 256, .inl (f))), (hmade, .inl (cM, 256, .inl (fo)))] := hD
  refine lv_iconst (v := 0) hx hb d_O_pieces_5 (by decide) ?_
  refine lv_istore_n (lv' := [(1, .int 0), (0, .ref h0)]) hx hb d_O_pieces_6 rfl hl (by decide) rfl (fun ls hl => ?_)
  refine lv_iconst (v := 0) hx hb d_O_pieces_7 (by decide) ?_
  refine lv_istore_n (lv' := [(2, .int 0), (1, .int 0), (0, .ref h0)]) hx hb d_O_pieces_8 rfl hl (by decide) rfl (fun ls hl => ?_)
  refine lo_dif h0 i_thrown i_down i_lasts i_documents v_gone v_first v_many v_lengths v_authors v_sums v_row v_base i_baseSize v_text i_textSize i_textSteps v_other i_otherSize i_at i_end i_value hpc cC hbuf cB k f L hmade cM k2 fo L2 (dif L L2 k 0 0) htx htx2 hk hk2 hx hb hml hown hw0 hN (hK.sub (tys' := [(cC, .byte), (cB, .byte), (cM, .byte)]) [0, 1, 2] rfl) hA (fun nw9 q9 g9 P9 F9 hf0 hf1 hf2 hf3 hf4 H locs hP hD hS ls hl => ?_) (k + 1) 0 (by omega) (by omega) 0 0 g [] k (Nat.le_refl 0) (tx_nil _) (by omega) (by omega) rfl _ _ (hP.sub (ws' := [(h0, .inr (7, [.int i_thrown, .int i_down, .int i_lasts, .ref hbuf, .int (nI k), .int i_documents, v_gone, v_first, v_many, v_lengths, v_authors, v_sums, v_row, .ref hmade, .int (nI k2), v_base, .int i_baseSize, v_text, .int i_textSize, .int i_textSteps, v_other, .int i_otherSize, .ref hpc, .int (nI 0), .int i_at, .int i_end, .int i_value])), (hpc, .inl (cC, 600, .inl (g))), (hbuf, .inl (cB, 256, .inl (f))), (hmade, .inl (cM, 256, .inl (fo)))]) [0, 1, 2, 3] rfl) (hD.sub (ws' := [(h0, .inr (7, [.int i_thrown, .int i_down, .int i_lasts, .ref hbuf, .int (nI k), .int i_documents, v_gone, v_first, v_many, v_lengths, v_authors, v_sums, v_row, .ref hmade, .int (nI k2), v_base, .int i_baseSize, v_text, .int i_textSize, .int i_textSteps, v_other, .int i_otherSize, .ref hpc, .int (nI 0), .int i_at, .int i_end, .int i_value])), (hpc, .inl (cC, 600, .inl (g))), (hbuf, .inl (cB, 256, .inl (f))), (hmade, .inl (cM, 256, .inl (fo)))]) [0, 1, 2, 3] (by decide) rfl) hS ls (lv_sub hl [0, 1, 2] rfl)
  replace hK := hK.sub (tys' := [(cC, .byte), (cB, .byte), (cM, .byte)]) [0, 1, 2] rfl
  have hdi := dgt_ins (k - nw9)
  refine lv_aload_n hx hb d_O_pieces_118 rfl (lv_at hl 2 rfl) ?_
  refine lv_iload_n hx hb d_O_pieces_119 rfl (lv_at hl 1 rfl) ?_
  refine lv_aload_n hx hb d_O_pieces_120 rfl (lv_at hl 2 rfl) ?_
  refine va_get (D := (dC, dI)) (ci := 7) (v := .int (nI k)) (C := R_O) (T := F_O) (N := 27) hx hb hw0 in_O hown hK hP 0 rfl rfl 4 (by decide) (hw0 (.fieldLink R_O 69 "TextKeeperModel" "size" "I") wm_245) (fun _ h9 => h9) rfl d_O_pieces_121 ?_
  have hPc := hP.sub (ws' := [(h0, .inr (7, [.int i_thrown, .int i_down, .int i_lasts, .ref hbuf, .int (nI k), .int i_documents, v_gone, v_first, v_many, v_lengths, v_authors, v_sums, v_row, .ref hmade, .int (nI k2), v_base, .int i_baseSize, v_text, .int i_textSize, .int i_textSteps, v_other, .int i_otherSize, .ref hpc, .int (nI q9), .int i_at, .int i_end, .int i_value])), (hpc, .inl (cC, 600, .inl ((g9)))), (hbuf, .inl (cB, 256, .inl ((f))))]) [0, 1, 2] rfl
  have hKc := hK.sub (tys' := [(cC, .byte), (cB, .byte)]) [0, 1] rfl
  have hDc := hD.sub (ws' := [(h0, .inr (7, [.int i_thrown, .int i_down, .int i_lasts, .ref hbuf, .int (nI k), .int i_documents, v_gone, v_first, v_many, v_lengths, v_authors, v_sums, v_row, .ref hmade, .int (nI k2), v_base, .int i_baseSize, v_text, .int i_textSize, .int i_textSteps, v_other, .int i_otherSize, .ref hpc, .int (nI q9), .int i_at, .int i_end, .int i_value])), (hpc, .inl (cC, 600, .inl ((g9)))), (hbuf, .inl (cB, 256, .inl ((f))))]) [0, 1, 2] (by decide) rfl
  have hFc := va_free (wc := [(h0, .inr (7, [.int i_thrown, .int i_down, .int i_lasts, .ref hbuf, .int (nI k), .int i_documents, v_gone, v_first, v_many, v_lengths, v_authors, v_sums, v_row, .ref hmade, .int (nI k2), v_base, .int i_baseSize, v_text, .int i_textSize, .int i_textSteps, v_other, .int i_otherSize, .ref hpc, .int (nI q9), .int i_at, .int i_end, .int i_value])), (hpc, .inl (cC, 600, .inl ((g9)))), (hbuf, .inl (cB, 256, .inl ((f))))]) hD hS hA [0, 1, 2] rfl
  refine va_callv (va_runV (As := [.int (nI nw9), .int (nI k)]) (rest := []) ⟨hx, hb, hml, hown, hw0⟩ (o_inserts l dC dI H.size h0 i_thrown i_down i_lasts (nI k) i_documents v_gone v_first v_many v_lengths v_authors v_sums v_row (.ref hmade) (nI k2) v_base i_baseSize v_text i_textSize i_textSteps v_other i_otherSize i_at i_end i_value hpc cC q9 (g9) _ hbuf cB _ (f) _ nw9 k (by first | assumption | decide | omega) (by first | assumption | decide | omega) (by first | assumption | decide | omega) (by first | assumption | decide | omega) (by first | assumption | decide | omega) (by first | assumption | decide | omega)) (cwV 2 hw0 (gd_Vm wm_257 wm_258 wm_259 wm_243 wm_260) rfl rfl rfl (by decide +kernel) ⟨by decide +kernel, by decide +kernel⟩) (prV_E hPc hKc hDc hN (va_recv hKc hPc (ci := 7) (q0 := 0) rfl rfl)) rfl rfl hl.1 rfl (lv_room (Nat.le_of_ble_eq_true rfl)) d_O_pieces_124 ⟨by decide +kernel, by decide +kernel⟩) hS (fun q _ h => hFc q h) hFc (fun u t H1 locs ht hvm hw hB hz1 hk1 hS => ?_)
  obtain ⟨q2_1, g2_2, ⟨hu_3_0, hu_3_1⟩, hP1, hK1, hD1⟩ := hB
  rw [ht] at hP1
  have hK1 := va_K.moved hvm.symm hK1
  try dsimp only at hw
  obtain ⟨hP, hD⟩ := va_join (wr := [(hmade, .inl (cM, 256, .inl (fo)))]) (w1 := [(h0, .inr (7, [.int i_thrown, .int i_down, .int i_lasts, .ref hbuf, .int (nI k), .int i_documents, v_gone, v_first, v_many, v_lengths, v_authors, v_sums, v_row, .ref hmade, .int (nI k2), v_base, .int i_baseSize, v_text, .int i_textSize, .int i_textSteps, v_other, .int i_otherSize, .ref hpc, .int (nI q2_1), .int i_at, .int i_end, .int i_value])), (hpc, .inl (cC, 600, .inl (g2_2))), (hbuf, .inl (cB, 256, .inl ((f))))]) hP hD [0, 1, 2] [3] rfl rfl (by decide) (by decide) hk1 hFc hP1 hD1
  generalize H1 = H at hP hS ⊢
  replace hP : va_P (dC, dI) vwCl [(hmade, .inl (cM, 256, .inl (fo))), (h0, .inr (7, [.int i_thrown, .int i_down, .int i_lasts, .ref hbuf, .int (nI k), .int i_documents, v_gone, v_first, v_many, v_lengths, v_authors, v_sums, v_row, .ref hmade, .int (nI k2), v_base, .int i_baseSize, v_text, .int i_textSize, .int i_textSteps, v_other, .int i_otherSize, .ref hpc, .int (nI q2_1), .int i_at, .int i_end, .int i_value])), (hpc, .inl (cC, 600, .inl (g2_2))), (hbuf, .inl (cB, 256, .inl ((f))))] H := hP
  replace hD : va_D A [(hmade, .inl (cM, 256, .inl (fo))), (h0, .inr (7, [.int i_thrown, .int i_down, .int i_lasts, .ref hbuf, .int (nI k), .int i_documents, v_gone, v_first, v_many, v_lengths, v_authors, v_sums, v_row, .ref hmade, .int (nI k2), v_base, .int i_baseSize, v_text, .int i_textSize, .int i_textSteps, v_other, .int i_otherSize, .ref hpc, .int (nI q2_1), .int i_at, .int i_end, .int i_value])), (hpc, .inl (cC, 600, .inl (g2_2))), (hbuf, .inl (cB, 256, .inl ((f))))] := hD
  replace hK : va_K (dC, dI) vwCl [(cC, .byte), (cB, .byte), (cM, .byte)] s := hK
  refine lv_aload_n hx hb d_O_pieces_127 rfl (lv_at hl 2 rfl) ?_
  refine va_get (D := (dC, dI)) (ci := 7) (v := .int (nI k)) (C := R_O) (T := F_O) (N := 27) hx hb hw0 in_O hown hK hP 1 rfl rfl 4 (by decide) (hw0 (.fieldLink R_O 69 "TextKeeperModel" "size" "I") wm_245) (fun _ h9 => h9) rfl d_O_pieces_128 ?_
  refine lv_if_ne (tgt := 138) hx hb d_O_pieces_131 (by decide) (fun c_4 => ?_) (fun c_4 => ?_)
  · have hdf := x_difE (L := L) (M := L2) htx.1 hf0 hf2 hk hf4 hu_3_0 hu_3_1; have hok := oneE_le k; have hnil := fun z : Nat → Int32 => tx_nil z; have hkn : k ≠ 0 := (fun z => c_4 (by rw [z]; rfl))
    refine lv_aload_n hx hb d_O_pieces_138 rfl (lv_at hl 2 rfl) ?_
    refine va_get (D := (dC, dI)) (ci := 7) (v := .int (nI k)) (C := R_O) (T := F_O) (N := 27) hx hb hw0 in_O hown hK hP 1 rfl rfl 4 (by decide) (hw0 (.fieldLink R_O 69 "TextKeeperModel" "size" "I") wm_245) (fun _ h9 => h9) rfl d_O_pieces_139 ?_
    refine lv_aload_n hx hb d_O_pieces_142 rfl (lv_at hl 2 rfl) ?_
    refine va_get (D := (dC, dI)) (ci := 7) (v := .int (nI k)) (C := R_O) (T := F_O) (N := 27) hx hb hw0 in_O hown hK hP 1 rfl rfl 4 (by decide) (hw0 (.fieldLink R_O 69 "TextKeeperModel" "size" "I") wm_245) (fun _ h9 => h9) rfl d_O_pieces_143 ?_
    refine lv_bipush (v := 64) hx hb d_O_pieces_146 (by decide +kernel) ?_
    refine lv_icmp_ge (tgt := 155) hx hb d_O_pieces_148 (by decide) (fun c_5 => ?_) (fun c_5 => ?_)
    · refine lv_iconst (v := 2) hx hb d_O_pieces_155 (by decide) ?_
      refine lv_iadd hx hb d_O_pieces_156 ?_
      refine lv_topi (fun x_6 ex_6 => ?_)
      obtain rfl : x_6 = (nI (oneE k)) := by rw [ex_6]; rw [oneE_2 (by have h8 := (nI_leI (by decide) (by omega)).mp (show nI 64 ≤ nI k from c_5); omega)]; exact nI_add k 2
      clear ex_6
      refine lv_istore_n (lv' := [(3, .int (nI (oneE k))), (2, .int (nI k)), (1, .int (nI nw9)), (0, .ref h0)]) hx hb d_O_pieces_157 rfl hl (by decide) rfl (fun ls hl => ?_)
      refine lv_aload_n hx hb d_O_pieces_158 rfl (lv_at hl 3 rfl) ?_
      refine va_get (D := (dC, dI)) (ci := 7) (v := .int (nI q2_1)) (C := R_O) (T := F_O) (N := 27) hx hb hw0 in_O hown hK hP 1 rfl rfl 23 (by decide) (hw0 (.fieldLink R_O 125 "TextKeeperModel" "pieceSize" "I") wm_239) (fun _ h9 => h9) rfl d_O_pieces_159 ?_
      refine lv_iload_n hx hb d_O_pieces_162 rfl (lv_at hl 0 rfl) ?_
      refine lv_icmp_le (tgt := 180) hx hb d_O_pieces_163 (by decide) (fun c_7 => ?_) (fun c_7 => ?_)
      · have hle9 : q2_1 ≤ oneE k := (nI_leI (by omega) (by omega)).mp c_7
        have hP9 := hP.sub (ws' := [(h0, .inr (7, [.int i_thrown, .int i_down, .int i_lasts, .ref hbuf, .int (nI k), .int i_documents, v_gone, v_first, v_many, v_lengths, v_authors, v_sums, v_row, .ref hmade, .int (nI k2), v_base, .int i_baseSize, v_text, .int i_textSize, .int i_textSteps, v_other, .int i_otherSize, .ref hpc, .int (nI q2_1), .int i_at, .int i_end, .int i_value])), (hpc, .inl (cC, 600, .inl (g2_2))), (hbuf, .inl (cB, 256, .inl (f))), (hmade, .inl (cM, 256, .inl (fo)))]) [1, 2, 3, 0] rfl
        have hD9 := hD.sub (ws' := [(h0, .inr (7, [.int i_thrown, .int i_down, .int i_lasts, .ref hbuf, .int (nI k), .int i_documents, v_gone, v_first, v_many, v_lengths, v_authors, v_sums, v_row, .ref hmade, .int (nI k2), v_base, .int i_baseSize, v_text, .int i_textSize, .int i_textSteps, v_other, .int i_otherSize, .ref hpc, .int (nI q2_1), .int i_at, .int i_end, .int i_value])), (hpc, .inl (cC, 600, .inl (g2_2))), (hbuf, .inl (cB, 256, .inl (f))), (hmade, .inl (cM, 256, .inl (fo)))]) [1, 2, 3, 0] (by decide) rfl
        have hK9 := hK.sub (tys' := [(cC, .byte), (cB, .byte), (cM, .byte)]) [0, 1, 2] rfl
        exact W.vret hx hb hr (fun t ht hW => ⟨⟨(), rfl, trivial, q2_1, g2_2, ⟨(by omega), y_pce1 htx.1 (by rw [hdf.2.1]; exact hle9) hdf.2⟩, by rw [ht]; exact hP9, va_K.moved hW.alike hK9, hD9⟩, hS.F ht⟩) hS.2.2 d_O_pieces_180
      · have hgt9 : ¬ q2_1 ≤ oneE k := (fun z => c_7 ((nI_leI (by omega) (by omega)).mpr z)); have hni := tx_nil g2_2
        refine lv_aload_n hx hb d_O_pieces_166 rfl (lv_at hl 3 rfl) ?_
        refine lv_iconst (v := 0) hx hb d_O_pieces_167 (by decide) ?_
        refine va_put (D := (dC, dI)) (ci := 7) (v := .int 0) (ty := .int) (C := R_O) (T := F_O) (N := 27) hx hb hw0 in_O ft_O tk_O nk_O hown hK hP hD hS 1 rfl rfl 23 (by decide) (hw0 (.fieldLink R_O 125 "TextKeeperModel" "pieceSize" "I") wm_239) (fun _ h9 => h9) rfl (by decide +kernel) rfl rfl (Nat.le_of_ble_eq_true rfl) d_O_pieces_168 (fun H locs hP hD hS => ?_)
        replace hP : va_P (dC, dI) vwCl [(hmade, .inl (cM, 256, .inl (fo))), (h0, .inr (7, [.int i_thrown, .int i_down, .int i_lasts, .ref hbuf, .int (nI k), .int i_documents, v_gone, v_first, v_many, v_lengths, v_authors, v_sums, v_row, .ref hmade, .int (nI k2), v_base, .int i_baseSize, v_text, .int i_textSize, .int i_textSteps, v_other, .int i_otherSize, .ref hpc, .int 0, .int i_at, .int i_end, .int i_value])), (hpc, .inl (cC, 600, .inl (g2_2))), (hbuf, .inl (cB, 256, .inl ((f))))] H := hP
        replace hD : va_D A [(hmade, .inl (cM, 256, .inl (fo))), (h0, .inr (7, [.int i_thrown, .int i_down, .int i_lasts, .ref hbuf, .int (nI k), .int i_documents, v_gone, v_first, v_many, v_lengths, v_authors, v_sums, v_row, .ref hmade, .int (nI k2), v_base, .int i_baseSize, v_text, .int i_textSize, .int i_textSteps, v_other, .int i_otherSize, .ref hpc, .int 0, .int i_at, .int i_end, .int i_value])), (hpc, .inl (cC, 600, .inl (g2_2))), (hbuf, .inl (cB, 256, .inl ((f))))] := hD
        refine lv_aload_n hx hb d_O_pieces_171 rfl (lv_at hl 3 rfl) ?_
        refine lv_iconst (v := 0) hx hb d_O_pieces_172 (by decide) ?_
        refine lv_aload_n hx hb d_O_pieces_173 rfl (lv_at hl 3 rfl) ?_
        refine va_get (D := (dC, dI)) (ci := 7) (v := .int (nI k)) (C := R_O) (T := F_O) (N := 27) hx hb hw0 in_O hown hK hP 1 rfl rfl 4 (by decide) (hw0 (.fieldLink R_O 69 "TextKeeperModel" "size" "I") wm_245) (fun _ h9 => h9) rfl d_O_pieces_174 ?_
        have hPc := hP.sub (ws' := [(h0, .inr (7, [.int i_thrown, .int i_down, .int i_lasts, .ref hbuf, .int (nI k), .int i_documents, v_gone, v_first, v_many, v_lengths, v_authors, v_sums, v_row, .ref hmade, .int (nI k2), v_base, .int i_baseSize, v_text, .int i_textSize, .int i_textSteps, v_other, .int i_otherSize, .ref hpc, .int (nI 0), .int i_at, .int i_end, .int i_value])), (hpc, .inl (cC, 600, .inl ((g2_2)))), (hbuf, .inl (cB, 256, .inl (((f)))))]) [1, 2, 3] rfl
        have hKc := hK.sub (tys' := [(cC, .byte), (cB, .byte)]) [0, 1] rfl
        have hDc := hD.sub (ws' := [(h0, .inr (7, [.int i_thrown, .int i_down, .int i_lasts, .ref hbuf, .int (nI k), .int i_documents, v_gone, v_first, v_many, v_lengths, v_authors, v_sums, v_row, .ref hmade, .int (nI k2), v_base, .int i_baseSize, v_text, .int i_textSize, .int i_textSteps, v_other, .int i_otherSize, .ref hpc, .int (nI 0), .int i_at, .int i_end, .int i_value])), (hpc, .inl (cC, 600, .inl ((g2_2)))), (hbuf, .inl (cB, 256, .inl (((f)))))]) [1, 2, 3] (by decide) rfl
        have hFc := va_free (wc := [(h0, .inr (7, [.int i_thrown, .int i_down, .int i_lasts, .ref hbuf, .int (nI k), .int i_documents, v_gone, v_first, v_many, v_lengths, v_authors, v_sums, v_row, .ref hmade, .int (nI k2), v_base, .int i_baseSize, v_text, .int i_textSize, .int i_textSteps, v_other, .int i_otherSize, .ref hpc, .int (nI 0), .int i_at, .int i_end, .int i_value])), (hpc, .inl (cC, 600, .inl ((g2_2)))), (hbuf, .inl (cB, 256, .inl (((f)))))]) hD hS hA [1, 2, 3] rfl
        refine va_callv (va_runV (As := [.int 0, .int (nI k)]) (rest := []) ⟨hx, hb, hml, hown, hw0⟩ (o_inserts l dC dI H.size h0 i_thrown i_down i_lasts (nI k) i_documents v_gone v_first v_many v_lengths v_authors v_sums v_row (.ref hmade) (nI k2) v_base i_baseSize v_text i_textSize i_textSteps v_other i_otherSize i_at i_end i_value hpc cC 0 (g2_2) _ hbuf cB _ ((f)) _ 0 k (by first | assumption | decide | omega) (by first | assumption | decide | omega) (by first | assumption | decide | omega) (by first | assumption | decide | omega) (by first | assumption | decide | omega) (by first | assumption | decide | omega)) (cwV 2 hw0 (gd_Vm wm_257 wm_258 wm_259 wm_243 wm_260) rfl rfl rfl (by decide +kernel) ⟨by decide +kernel, by decide +kernel⟩) (prV_E hPc hKc hDc hN (va_recv hKc hPc (ci := 7) (q0 := 0) rfl rfl)) rfl rfl hl.1 rfl (lv_room (Nat.le_of_ble_eq_true rfl)) d_O_pieces_177 ⟨by decide +kernel, by decide +kernel⟩) hS (fun q _ h => hFc q h) hFc (fun u t H1 locs ht hvm hw hB hz1 hk1 hS => ?_)
        obtain ⟨q2_8, g2_9, ⟨hu_10_0, hu_10_1⟩, hP1, hK1, hD1⟩ := hB
        rw [ht] at hP1
        have hK1 := va_K.moved hvm.symm hK1
        try dsimp only at hw
        obtain ⟨hP, hD⟩ := va_join (wr := [(hmade, .inl (cM, 256, .inl (fo)))]) (w1 := [(h0, .inr (7, [.int i_thrown, .int i_down, .int i_lasts, .ref hbuf, .int (nI k), .int i_documents, v_gone, v_first, v_many, v_lengths, v_authors, v_sums, v_row, .ref hmade, .int (nI k2), v_base, .int i_baseSize, v_text, .int i_textSize, .int i_textSteps, v_other, .int i_otherSize, .ref hpc, .int (nI q2_8), .int i_at, .int i_end, .int i_value])), (hpc, .inl (cC, 600, .inl (g2_9))), (hbuf, .inl (cB, 256, .inl (((f)))))]) hP hD [1, 2, 3] [0] rfl rfl (by decide) (by decide) hk1 hFc hP1 hD1
        generalize H1 = H at hP hS ⊢
        replace hP : va_P (dC, dI) vwCl [(hmade, .inl (cM, 256, .inl (fo))), (h0, .inr (7, [.int i_thrown, .int i_down, .int i_lasts, .ref hbuf, .int (nI k), .int i_documents, v_gone, v_first, v_many, v_lengths, v_authors, v_sums, v_row, .ref hmade, .int (nI k2), v_base, .int i_baseSize, v_text, .int i_textSize, .int i_textSteps, v_other, .int i_otherSize, .ref hpc, .int (nI q2_8), .int i_at, .int i_end, .int i_value])), (hpc, .inl (cC, 600, .inl (g2_9))), (hbuf, .inl (cB, 256, .inl (((f)))))] H := hP
        replace hD : va_D A [(hmade, .inl (cM, 256, .inl (fo))), (h0, .inr (7, [.int i_thrown, .int i_down, .int i_lasts, .ref hbuf, .int (nI k), .int i_documents, v_gone, v_first, v_many, v_lengths, v_authors, v_sums, v_row, .ref hmade, .int (nI k2), v_base, .int i_baseSize, v_text, .int i_textSize, .int i_textSteps, v_other, .int i_otherSize, .ref hpc, .int (nI q2_8), .int i_at, .int i_end, .int i_value])), (hpc, .inl (cC, 600, .inl (g2_9))), (hbuf, .inl (cB, 256, .inl (((f)))))] := hD
        replace hK : va_K (dC, dI) vwCl [(cC, .byte), (cB, .byte), (cM, .byte)] s := hK
        have hP9 := hP.sub (ws' := [(h0, .inr (7, [.int i_thrown, .int i_down, .int i_lasts, .ref hbuf, .int (nI k), .int i_documents, v_gone, v_first, v_many, v_lengths, v_authors, v_sums, v_row, .ref hmade, .int (nI k2), v_base, .int i_baseSize, v_text, .int i_textSize, .int i_textSteps, v_other, .int i_otherSize, .ref hpc, .int (nI q2_8), .int i_at, .int i_end, .int i_value])), (hpc, .inl (cC, 600, .inl (g2_9))), (hbuf, .inl (cB, 256, .inl (f))), (hmade, .inl (cM, 256, .inl (fo)))]) [1, 2, 3, 0] rfl
        have hD9 := hD.sub (ws' := [(h0, .inr (7, [.int i_thrown, .int i_down, .int i_lasts, .ref hbuf, .int (nI k), .int i_documents, v_gone, v_first, v_many, v_lengths, v_authors, v_sums, v_row, .ref hmade, .int (nI k2), v_base, .int i_baseSize, v_text, .int i_textSize, .int i_textSteps, v_other, .int i_otherSize, .ref hpc, .int (nI q2_8), .int i_at, .int i_end, .int i_value])), (hpc, .inl (cC, 600, .inl (g2_9))), (hbuf, .inl (cB, 256, .inl (f))), (hmade, .inl (cM, 256, .inl (fo)))]) [1, 2, 3, 0] (by decide) rfl
        have hK9 := hK.sub (tys' := [(cC, .byte), (cB, .byte), (cM, .byte)]) [0, 1, 2] rfl
        exact W.vret hx hb hr (fun t ht hW => ⟨⟨(), rfl, trivial, q2_8, g2_9, ⟨(by have h8 := insE_len (L := L) (a := 0) (b := k) (by omega) (by rw [htx.1]; exact Nat.le_refl _); omega), y_pce2 htx.1 (by rw [hdf.2.1]; exact hgt9) hu_10_1⟩, by rw [ht]; exact hP9, va_K.moved hW.alike hK9, hD9⟩, hS.F ht⟩) hS.2.2 d_O_pieces_180
    · refine lv_iconst (v := 1) hx hb d_O_pieces_151 (by decide) ?_
      refine lv_goto (tgt := 156) hx hb d_O_pieces_152 (by decide) ?_
      refine lv_iadd hx hb d_O_pieces_156 ?_
      refine lv_topi (fun x_11 ex_11 => ?_)
      obtain rfl : x_11 = (nI (oneE k)) := by rw [ex_11]; rw [oneE_1 hkn (by rcases Nat.lt_or_ge k 64 with z | z; exact z; exact absurd (show nI 64 ≤ nI k from nI_le z (by omega)) c_5)]; exact nI_add k 1
      clear ex_11
      refine lv_istore_n (lv' := [(3, .int (nI (oneE k))), (2, .int (nI k)), (1, .int (nI nw9)), (0, .ref h0)]) hx hb d_O_pieces_157 rfl hl (by decide) rfl (fun ls hl => ?_)
      refine lv_aload_n hx hb d_O_pieces_158 rfl (lv_at hl 3 rfl) ?_
      refine va_get (D := (dC, dI)) (ci := 7) (v := .int (nI q2_1)) (C := R_O) (T := F_O) (N := 27) hx hb hw0 in_O hown hK hP 1 rfl rfl 23 (by decide) (hw0 (.fieldLink R_O 125 "TextKeeperModel" "pieceSize" "I") wm_239) (fun _ h9 => h9) rfl d_O_pieces_159 ?_
      refine lv_iload_n hx hb d_O_pieces_162 rfl (lv_at hl 0 rfl) ?_
      refine lv_icmp_le (tgt := 180) hx hb d_O_pieces_163 (by decide) (fun c_12 => ?_) (fun c_12 => ?_)
      · have hle9 : q2_1 ≤ oneE k := (nI_leI (by omega) (by omega)).mp c_12
        have hP9 := hP.sub (ws' := [(h0, .inr (7, [.int i_thrown, .int i_down, .int i_lasts, .ref hbuf, .int (nI k), .int i_documents, v_gone, v_first, v_many, v_lengths, v_authors, v_sums, v_row, .ref hmade, .int (nI k2), v_base, .int i_baseSize, v_text, .int i_textSize, .int i_textSteps, v_other, .int i_otherSize, .ref hpc, .int (nI q2_1), .int i_at, .int i_end, .int i_value])), (hpc, .inl (cC, 600, .inl (g2_2))), (hbuf, .inl (cB, 256, .inl (f))), (hmade, .inl (cM, 256, .inl (fo)))]) [1, 2, 3, 0] rfl
        have hD9 := hD.sub (ws' := [(h0, .inr (7, [.int i_thrown, .int i_down, .int i_lasts, .ref hbuf, .int (nI k), .int i_documents, v_gone, v_first, v_many, v_lengths, v_authors, v_sums, v_row, .ref hmade, .int (nI k2), v_base, .int i_baseSize, v_text, .int i_textSize, .int i_textSteps, v_other, .int i_otherSize, .ref hpc, .int (nI q2_1), .int i_at, .int i_end, .int i_value])), (hpc, .inl (cC, 600, .inl (g2_2))), (hbuf, .inl (cB, 256, .inl (f))), (hmade, .inl (cM, 256, .inl (fo)))]) [1, 2, 3, 0] (by decide) rfl
        have hK9 := hK.sub (tys' := [(cC, .byte), (cB, .byte), (cM, .byte)]) [0, 1, 2] rfl
        exact W.vret hx hb hr (fun t ht hW => ⟨⟨(), rfl, trivial, q2_1, g2_2, ⟨(by omega), y_pce1 htx.1 (by rw [hdf.2.1]; exact hle9) hdf.2⟩, by rw [ht]; exact hP9, va_K.moved hW.alike hK9, hD9⟩, hS.F ht⟩) hS.2.2 d_O_pieces_180
      · have hgt9 : ¬ q2_1 ≤ oneE k := (fun z => c_12 ((nI_leI (by omega) (by omega)).mpr z)); have hni := tx_nil g2_2
        refine lv_aload_n hx hb d_O_pieces_166 rfl (lv_at hl 3 rfl) ?_
        refine lv_iconst (v := 0) hx hb d_O_pieces_167 (by decide) ?_
        refine va_put (D := (dC, dI)) (ci := 7) (v := .int 0) (ty := .int) (C := R_O) (T := F_O) (N := 27) hx hb hw0 in_O ft_O tk_O nk_O hown hK hP hD hS 1 rfl rfl 23 (by decide) (hw0 (.fieldLink R_O 125 "TextKeeperModel" "pieceSize" "I") wm_239) (fun _ h9 => h9) rfl (by decide +kernel) rfl rfl (Nat.le_of_ble_eq_true rfl) d_O_pieces_168 (fun H locs hP hD hS => ?_)
        replace hP : va_P (dC, dI) vwCl [(hmade, .inl (cM, 256, .inl (fo))), (h0, .inr (7, [.int i_thrown, .int i_down, .int i_lasts, .ref hbuf, .int (nI k), .int i_documents, v_gone, v_first, v_many, v_lengths, v_authors, v_sums, v_row, .ref hmade, .int (nI k2), v_base, .int i_baseSize, v_text, .int i_textSize, .int i_textSteps, v_other, .int i_otherSize, .ref hpc, .int 0, .int i_at, .int i_end, .int i_value])), (hpc, .inl (cC, 600, .inl (g2_2))), (hbuf, .inl (cB, 256, .inl ((f))))] H := hP
        replace hD : va_D A [(hmade, .inl (cM, 256, .inl (fo))), (h0, .inr (7, [.int i_thrown, .int i_down, .int i_lasts, .ref hbuf, .int (nI k), .int i_documents, v_gone, v_first, v_many, v_lengths, v_authors, v_sums, v_row, .ref hmade, .int (nI k2), v_base, .int i_baseSize, v_text, .int i_textSize, .int i_textSteps, v_other, .int i_otherSize, .ref hpc, .int 0, .int i_at, .int i_end, .int i_value])), (hpc, .inl (cC, 600, .inl (g2_2))), (hbuf, .inl (cB, 256, .inl ((f))))] := hD
        refine lv_aload_n hx hb d_O_pieces_171 rfl (lv_at hl 3 rfl) ?_
        refine lv_iconst (v := 0) hx hb d_O_pieces_172 (by decide) ?_
        refine lv_aload_n hx hb d_O_pieces_173 rfl (lv_at hl 3 rfl) ?_
        refine va_get (D := (dC, dI)) (ci := 7) (v := .int (nI k)) (C := R_O) (T := F_O) (N := 27) hx hb hw0 in_O hown hK hP 1 rfl rfl 4 (by decide) (hw0 (.fieldLink R_O 69 "TextKeeperModel" "size" "I") wm_245) (fun _ h9 => h9) rfl d_O_pieces_174 ?_
        have hPc := hP.sub (ws' := [(h0, .inr (7, [.int i_thrown, .int i_down, .int i_lasts, .ref hbuf, .int (nI k), .int i_documents, v_gone, v_first, v_many, v_lengths, v_authors, v_sums, v_row, .ref hmade, .int (nI k2), v_base, .int i_baseSize, v_text, .int i_textSize, .int i_textSteps, v_other, .int i_otherSize, .ref hpc, .int (nI 0), .int i_at, .int i_end, .int i_value])), (hpc, .inl (cC, 600, .inl ((g2_2)))), (hbuf, .inl (cB, 256, .inl (((f)))))]) [1, 2, 3] rfl
        have hKc := hK.sub (tys' := [(cC, .byte), (cB, .byte)]) [0, 1] rfl
        have hDc := hD.sub (ws' := [(h0, .inr (7, [.int i_thrown, .int i_down, .int i_lasts, .ref hbuf, .int (nI k), .int i_documents, v_gone, v_first, v_many, v_lengths, v_authors, v_sums, v_row, .ref hmade, .int (nI k2), v_base, .int i_baseSize, v_text, .int i_textSize, .int i_textSteps, v_other, .int i_otherSize, .ref hpc, .int (nI 0), .int i_at, .int i_end, .int i_value])), (hpc, .inl (cC, 600, .inl ((g2_2)))), (hbuf, .inl (cB, 256, .inl (((f)))))]) [1, 2, 3] (by decide) rfl
        have hFc := va_free (wc := [(h0, .inr (7, [.int i_thrown, .int i_down, .int i_lasts, .ref hbuf, .int (nI k), .int i_documents, v_gone, v_first, v_many, v_lengths, v_authors, v_sums, v_row, .ref hmade, .int (nI k2), v_base, .int i_baseSize, v_text, .int i_textSize, .int i_textSteps, v_other, .int i_otherSize, .ref hpc, .int (nI 0), .int i_at, .int i_end, .int i_value])), (hpc, .inl (cC, 600, .inl ((g2_2)))), (hbuf, .inl (cB, 256, .inl (((f)))))]) hD hS hA [1, 2, 3] rfl
        refine va_callv (va_runV (As := [.int 0, .int (nI k)]) (rest := []) ⟨hx, hb, hml, hown, hw0⟩ (o_inserts l dC dI H.size h0 i_thrown i_down i_lasts (nI k) i_documents v_gone v_first v_many v_lengths v_authors v_sums v_row (.ref hmade) (nI k2) v_base i_baseSize v_text i_textSize i_textSteps v_other i_otherSize i_at i_end i_value hpc cC 0 (g2_2) _ hbuf cB _ ((f)) _ 0 k (by first | assumption | decide | omega) (by first | assumption | decide | omega) (by first | assumption | decide | omega) (by first | assumption | decide | omega) (by first | assumption | decide | omega) (by first | assumption | decide | omega)) (cwV 2 hw0 (gd_Vm wm_257 wm_258 wm_259 wm_243 wm_260) rfl rfl rfl (by decide +kernel) ⟨by decide +kernel, by decide +kernel⟩) (prV_E hPc hKc hDc hN (va_recv hKc hPc (ci := 7) (q0 := 0) rfl rfl)) rfl rfl hl.1 rfl (lv_room (Nat.le_of_ble_eq_true rfl)) d_O_pieces_177 ⟨by decide +kernel, by decide +kernel⟩) hS (fun q _ h => hFc q h) hFc (fun u t H1 locs ht hvm hw hB hz1 hk1 hS => ?_)
        obtain ⟨q2_13, g2_14, ⟨hu_15_0, hu_15_1⟩, hP1, hK1, hD1⟩ := hB
        rw [ht] at hP1
        have hK1 := va_K.moved hvm.symm hK1
        try dsimp only at hw
        obtain ⟨hP, hD⟩ := va_join (wr := [(hmade, .inl (cM, 256, .inl (fo)))]) (w1 := [(h0, .inr (7, [.int i_thrown, .int i_down, .int i_lasts, .ref hbuf, .int (nI k), .int i_documents, v_gone, v_first, v_many, v_lengths, v_authors, v_sums, v_row, .ref hmade, .int (nI k2), v_base, .int i_baseSize, v_text, .int i_textSize, .int i_textSteps, v_other, .int i_otherSize, .ref hpc, .int (nI q2_13), .int i_at, .int i_end, .int i_value])), (hpc, .inl (cC, 600, .inl (g2_14))), (hbuf, .inl (cB, 256, .inl (((f)))))]) hP hD [1, 2, 3] [0] rfl rfl (by decide) (by decide) hk1 hFc hP1 hD1
        generalize H1 = H at hP hS ⊢
        replace hP : va_P (dC, dI) vwCl [(hmade, .inl (cM, 256, .inl (fo))), (h0, .inr (7, [.int i_thrown, .int i_down, .int i_lasts, .ref hbuf, .int (nI k), .int i_documents, v_gone, v_first, v_many, v_lengths, v_authors, v_sums, v_row, .ref hmade, .int (nI k2), v_base, .int i_baseSize, v_text, .int i_textSize, .int i_textSteps, v_other, .int i_otherSize, .ref hpc, .int (nI q2_13), .int i_at, .int i_end, .int i_value])), (hpc, .inl (cC, 600, .inl (g2_14))), (hbuf, .inl (cB, 256, .inl (((f)))))] H := hP
        replace hD : va_D A [(hmade, .inl (cM, 256, .inl (fo))), (h0, .inr (7, [.int i_thrown, .int i_down, .int i_lasts, .ref hbuf, .int (nI k), .int i_documents, v_gone, v_first, v_many, v_lengths, v_authors, v_sums, v_row, .ref hmade, .int (nI k2), v_base, .int i_baseSize, v_text, .int i_textSize, .int i_textSteps, v_other, .int i_otherSize, .ref hpc, .int (nI q2_13), .int i_at, .int i_end, .int i_value])), (hpc, .inl (cC, 600, .inl (g2_14))), (hbuf, .inl (cB, 256, .inl (((f)))))] := hD
        replace hK : va_K (dC, dI) vwCl [(cC, .byte), (cB, .byte), (cM, .byte)] s := hK
        have hP9 := hP.sub (ws' := [(h0, .inr (7, [.int i_thrown, .int i_down, .int i_lasts, .ref hbuf, .int (nI k), .int i_documents, v_gone, v_first, v_many, v_lengths, v_authors, v_sums, v_row, .ref hmade, .int (nI k2), v_base, .int i_baseSize, v_text, .int i_textSize, .int i_textSteps, v_other, .int i_otherSize, .ref hpc, .int (nI q2_13), .int i_at, .int i_end, .int i_value])), (hpc, .inl (cC, 600, .inl (g2_14))), (hbuf, .inl (cB, 256, .inl (f))), (hmade, .inl (cM, 256, .inl (fo)))]) [1, 2, 3, 0] rfl
        have hD9 := hD.sub (ws' := [(h0, .inr (7, [.int i_thrown, .int i_down, .int i_lasts, .ref hbuf, .int (nI k), .int i_documents, v_gone, v_first, v_many, v_lengths, v_authors, v_sums, v_row, .ref hmade, .int (nI k2), v_base, .int i_baseSize, v_text, .int i_textSize, .int i_textSteps, v_other, .int i_otherSize, .ref hpc, .int (nI q2_13), .int i_at, .int i_end, .int i_value])), (hpc, .inl (cC, 600, .inl (g2_14))), (hbuf, .inl (cB, 256, .inl (f))), (hmade, .inl (cM, 256, .inl (fo)))]) [1, 2, 3, 0] (by decide) rfl
        have hK9 := hK.sub (tys' := [(cC, .byte), (cB, .byte), (cM, .byte)]) [0, 1, 2] rfl
        exact W.vret hx hb hr (fun t ht hW => ⟨⟨(), rfl, trivial, q2_13, g2_14, ⟨(by have h8 := insE_len (L := L) (a := 0) (b := k) (by omega) (by rw [htx.1]; exact Nat.le_refl _); omega), y_pce2 htx.1 (by rw [hdf.2.1]; exact hgt9) hu_15_1⟩, by rw [ht]; exact hP9, va_K.moved hW.alike hK9, hD9⟩, hS.F ht⟩) hS.2.2 d_O_pieces_180
  · have hdf := x_difE (L := L) (M := L2) htx.1 hf0 hf2 hk hf4 hu_3_0 hu_3_1; have hok := oneE_le k; have hnil := fun z : Nat → Int32 => tx_nil z; have hk0 : oneE k = 0 := (by have h8 : nI k = nI 0 := c_4; have h9 := (nI_eq (by omega) (by decide)).mp h8; rw [h9]; rfl)
    refine lv_iconst (v := 0) hx hb d_O_pieces_134 (by decide) ?_
    refine lv_goto (tgt := 157) hx hb d_O_pieces_135 (by decide) ?_
    refine lv_istore_n (lv' := [(3, .int 0), (2, .int (nI k)), (1, .int (nI nw9)), (0, .ref h0)]) hx hb d_O_pieces_157 rfl hl (by decide) rfl (fun ls hl => ?_)
    refine lv_aload_n hx hb d_O_pieces_158 rfl (lv_at hl 3 rfl) ?_
    refine va_get (D := (dC, dI)) (ci := 7) (v := .int (nI q2_1)) (C := R_O) (T := F_O) (N := 27) hx hb hw0 in_O hown hK hP 1 rfl rfl 23 (by decide) (hw0 (.fieldLink R_O 125 "TextKeeperModel" "pieceSize" "I") wm_239) (fun _ h9 => h9) rfl d_O_pieces_159 ?_
    refine lv_iload_n hx hb d_O_pieces_162 rfl (lv_at hl 0 rfl) ?_
    refine lv_icmp_le (tgt := 180) hx hb d_O_pieces_163 (by decide) (fun c_16 => ?_) (fun c_16 => ?_)
    · have hle9 : q2_1 ≤ oneE k := (by have h8 := (nI_leI (by omega) (by decide)).mp (show nI q2_1 ≤ nI 0 from c_16); omega)
      have hP9 := hP.sub (ws' := [(h0, .inr (7, [.int i_thrown, .int i_down, .int i_lasts, .ref hbuf, .int (nI k), .int i_documents, v_gone, v_first, v_many, v_lengths, v_authors, v_sums, v_row, .ref hmade, .int (nI k2), v_base, .int i_baseSize, v_text, .int i_textSize, .int i_textSteps, v_other, .int i_otherSize, .ref hpc, .int (nI q2_1), .int i_at, .int i_end, .int i_value])), (hpc, .inl (cC, 600, .inl (g2_2))), (hbuf, .inl (cB, 256, .inl (f))), (hmade, .inl (cM, 256, .inl (fo)))]) [1, 2, 3, 0] rfl
      have hD9 := hD.sub (ws' := [(h0, .inr (7, [.int i_thrown, .int i_down, .int i_lasts, .ref hbuf, .int (nI k), .int i_documents, v_gone, v_first, v_many, v_lengths, v_authors, v_sums, v_row, .ref hmade, .int (nI k2), v_base, .int i_baseSize, v_text, .int i_textSize, .int i_textSteps, v_other, .int i_otherSize, .ref hpc, .int (nI q2_1), .int i_at, .int i_end, .int i_value])), (hpc, .inl (cC, 600, .inl (g2_2))), (hbuf, .inl (cB, 256, .inl (f))), (hmade, .inl (cM, 256, .inl (fo)))]) [1, 2, 3, 0] (by decide) rfl
      have hK9 := hK.sub (tys' := [(cC, .byte), (cB, .byte), (cM, .byte)]) [0, 1, 2] rfl
      exact W.vret hx hb hr (fun t ht hW => ⟨⟨(), rfl, trivial, q2_1, g2_2, ⟨(by omega), y_pce1 htx.1 (by rw [hdf.2.1]; exact hle9) hdf.2⟩, by rw [ht]; exact hP9, va_K.moved hW.alike hK9, hD9⟩, hS.F ht⟩) hS.2.2 d_O_pieces_180
    · have hgt9 : ¬ q2_1 ≤ oneE k := (fun z => c_16 (show nI q2_1 ≤ nI 0 from nI_le (by omega) (by decide))); have hni := tx_nil g2_2
      refine lv_aload_n hx hb d_O_pieces_166 rfl (lv_at hl 3 rfl) ?_
      refine lv_iconst (v := 0) hx hb d_O_pieces_167 (by decide) ?_
      refine va_put (D := (dC, dI)) (ci := 7) (v := .int 0) (ty := .int) (C := R_O) (T := F_O) (N := 27) hx hb hw0 in_O ft_O tk_O nk_O hown hK hP hD hS 1 rfl rfl 23 (by decide) (hw0 (.fieldLink R_O 125 "TextKeeperModel" "pieceSize" "I") wm_239) (fun _ h9 => h9) rfl (by decide +kernel) rfl rfl (Nat.le_of_ble_eq_true rfl) d_O_pieces_168 (fun H locs hP hD hS => ?_)
      replace hP : va_P (dC, dI) vwCl [(hmade, .inl (cM, 256, .inl (fo))), (h0, .inr (7, [.int i_thrown, .int i_down, .int i_lasts, .ref hbuf, .int (nI k), .int i_documents, v_gone, v_first, v_many, v_lengths, v_authors, v_sums, v_row, .ref hmade, .int (nI k2), v_base, .int i_baseSize, v_text, .int i_textSize, .int i_textSteps, v_other, .int i_otherSize, .ref hpc, .int 0, .int i_at, .int i_end, .int i_value])), (hpc, .inl (cC, 600, .inl (g2_2))), (hbuf, .inl (cB, 256, .inl ((f))))] H := hP
      replace hD : va_D A [(hmade, .inl (cM, 256, .inl (fo))), (h0, .inr (7, [.int i_thrown, .int i_down, .int i_lasts, .ref hbuf, .int (nI k), .int i_documents, v_gone, v_first, v_many, v_lengths, v_authors, v_sums, v_row, .ref hmade, .int (nI k2), v_base, .int i_baseSize, v_text, .int i_textSize, .int i_textSteps, v_other, .int i_otherSize, .ref hpc, .int 0, .int i_at, .int i_end, .int i_value])), (hpc, .inl (cC, 600, .inl (g2_2))), (hbuf, .inl (cB, 256, .inl ((f))))] := hD
      refine lv_aload_n hx hb d_O_pieces_171 rfl (lv_at hl 3 rfl) ?_
      refine lv_iconst (v := 0) hx hb d_O_pieces_172 (by decide) ?_
      refine lv_aload_n hx hb d_O_pieces_173 rfl (lv_at hl 3 rfl) ?_
      refine va_get (D := (dC, dI)) (ci := 7) (v := .int (nI k)) (C := R_O) (T := F_O) (N := 27) hx hb hw0 in_O hown hK hP 1 rfl rfl 4 (by decide) (hw0 (.fieldLink R_O 69 "TextKeeperModel" "size" "I") wm_245) (fun _ h9 => h9) rfl d_O_pieces_174 ?_
      have hPc := hP.sub (ws' := [(h0, .inr (7, [.int i_thrown, .int i_down, .int i_lasts, .ref hbuf, .int (nI k), .int i_documents, v_gone, v_first, v_many, v_lengths, v_authors, v_sums, v_row, .ref hmade, .int (nI k2), v_base, .int i_baseSize, v_text, .int i_textSize, .int i_textSteps, v_other, .int i_otherSize, .ref hpc, .int (nI 0), .int i_at, .int i_end, .int i_value])), (hpc, .inl (cC, 600, .inl ((g2_2)))), (hbuf, .inl (cB, 256, .inl (((f)))))]) [1, 2, 3] rfl
      have hKc := hK.sub (tys' := [(cC, .byte), (cB, .byte)]) [0, 1] rfl
      have hDc := hD.sub (ws' := [(h0, .inr (7, [.int i_thrown, .int i_down, .int i_lasts, .ref hbuf, .int (nI k), .int i_documents, v_gone, v_first, v_many, v_lengths, v_authors, v_sums, v_row, .ref hmade, .int (nI k2), v_base, .int i_baseSize, v_text, .int i_textSize, .int i_textSteps, v_other, .int i_otherSize, .ref hpc, .int (nI 0), .int i_at, .int i_end, .int i_value])), (hpc, .inl (cC, 600, .inl ((g2_2)))), (hbuf, .inl (cB, 256, .inl (((f)))))]) [1, 2, 3] (by decide) rfl
      have hFc := va_free (wc := [(h0, .inr (7, [.int i_thrown, .int i_down, .int i_lasts, .ref hbuf, .int (nI k), .int i_documents, v_gone, v_first, v_many, v_lengths, v_authors, v_sums, v_row, .ref hmade, .int (nI k2), v_base, .int i_baseSize, v_text, .int i_textSize, .int i_textSteps, v_other, .int i_otherSize, .ref hpc, .int (nI 0), .int i_at, .int i_end, .int i_value])), (hpc, .inl (cC, 600, .inl ((g2_2)))), (hbuf, .inl (cB, 256, .inl (((f)))))]) hD hS hA [1, 2, 3] rfl
      refine va_callv (va_runV (As := [.int 0, .int (nI k)]) (rest := []) ⟨hx, hb, hml, hown, hw0⟩ (o_inserts l dC dI H.size h0 i_thrown i_down i_lasts (nI k) i_documents v_gone v_first v_many v_lengths v_authors v_sums v_row (.ref hmade) (nI k2) v_base i_baseSize v_text i_textSize i_textSteps v_other i_otherSize i_at i_end i_value hpc cC 0 (g2_2) _ hbuf cB _ ((f)) _ 0 k (by first | assumption | decide | omega) (by first | assumption | decide | omega) (by first | assumption | decide | omega) (by first | assumption | decide | omega) (by first | assumption | decide | omega) (by first | assumption | decide | omega)) (cwV 2 hw0 (gd_Vm wm_257 wm_258 wm_259 wm_243 wm_260) rfl rfl rfl (by decide +kernel) ⟨by decide +kernel, by decide +kernel⟩) (prV_E hPc hKc hDc hN (va_recv hKc hPc (ci := 7) (q0 := 0) rfl rfl)) rfl rfl hl.1 rfl (lv_room (Nat.le_of_ble_eq_true rfl)) d_O_pieces_177 ⟨by decide +kernel, by decide +kernel⟩) hS (fun q _ h => hFc q h) hFc (fun u t H1 locs ht hvm hw hB hz1 hk1 hS => ?_)
      obtain ⟨q2_17, g2_18, ⟨hu_19_0, hu_19_1⟩, hP1, hK1, hD1⟩ := hB
      rw [ht] at hP1
      have hK1 := va_K.moved hvm.symm hK1
      try dsimp only at hw
      obtain ⟨hP, hD⟩ := va_join (wr := [(hmade, .inl (cM, 256, .inl (fo)))]) (w1 := [(h0, .inr (7, [.int i_thrown, .int i_down, .int i_lasts, .ref hbuf, .int (nI k), .int i_documents, v_gone, v_first, v_many, v_lengths, v_authors, v_sums, v_row, .ref hmade, .int (nI k2), v_base, .int i_baseSize, v_text, .int i_textSize, .int i_textSteps, v_other, .int i_otherSize, .ref hpc, .int (nI q2_17), .int i_at, .int i_end, .int i_value])), (hpc, .inl (cC, 600, .inl (g2_18))), (hbuf, .inl (cB, 256, .inl (((f)))))]) hP hD [1, 2, 3] [0] rfl rfl (by decide) (by decide) hk1 hFc hP1 hD1
      generalize H1 = H at hP hS ⊢
      replace hP : va_P (dC, dI) vwCl [(hmade, .inl (cM, 256, .inl (fo))), (h0, .inr (7, [.int i_thrown, .int i_down, .int i_lasts, .ref hbuf, .int (nI k), .int i_documents, v_gone, v_first, v_many, v_lengths, v_authors, v_sums, v_row, .ref hmade, .int (nI k2), v_base, .int i_baseSize, v_text, .int i_textSize, .int i_textSteps, v_other, .int i_otherSize, .ref hpc, .int (nI q2_17), .int i_at, .int i_end, .int i_value])), (hpc, .inl (cC, 600, .inl (g2_18))), (hbuf, .inl (cB, 256, .inl (((f)))))] H := hP
      replace hD : va_D A [(hmade, .inl (cM, 256, .inl (fo))), (h0, .inr (7, [.int i_thrown, .int i_down, .int i_lasts, .ref hbuf, .int (nI k), .int i_documents, v_gone, v_first, v_many, v_lengths, v_authors, v_sums, v_row, .ref hmade, .int (nI k2), v_base, .int i_baseSize, v_text, .int i_textSize, .int i_textSteps, v_other, .int i_otherSize, .ref hpc, .int (nI q2_17), .int i_at, .int i_end, .int i_value])), (hpc, .inl (cC, 600, .inl (g2_18))), (hbuf, .inl (cB, 256, .inl (((f)))))] := hD
      replace hK : va_K (dC, dI) vwCl [(cC, .byte), (cB, .byte), (cM, .byte)] s := hK
      have hP9 := hP.sub (ws' := [(h0, .inr (7, [.int i_thrown, .int i_down, .int i_lasts, .ref hbuf, .int (nI k), .int i_documents, v_gone, v_first, v_many, v_lengths, v_authors, v_sums, v_row, .ref hmade, .int (nI k2), v_base, .int i_baseSize, v_text, .int i_textSize, .int i_textSteps, v_other, .int i_otherSize, .ref hpc, .int (nI q2_17), .int i_at, .int i_end, .int i_value])), (hpc, .inl (cC, 600, .inl (g2_18))), (hbuf, .inl (cB, 256, .inl (f))), (hmade, .inl (cM, 256, .inl (fo)))]) [1, 2, 3, 0] rfl
      have hD9 := hD.sub (ws' := [(h0, .inr (7, [.int i_thrown, .int i_down, .int i_lasts, .ref hbuf, .int (nI k), .int i_documents, v_gone, v_first, v_many, v_lengths, v_authors, v_sums, v_row, .ref hmade, .int (nI k2), v_base, .int i_baseSize, v_text, .int i_textSize, .int i_textSteps, v_other, .int i_otherSize, .ref hpc, .int (nI q2_17), .int i_at, .int i_end, .int i_value])), (hpc, .inl (cC, 600, .inl (g2_18))), (hbuf, .inl (cB, 256, .inl (f))), (hmade, .inl (cM, 256, .inl (fo)))]) [1, 2, 3, 0] (by decide) rfl
      have hK9 := hK.sub (tys' := [(cC, .byte), (cB, .byte), (cM, .byte)]) [0, 1, 2] rfl
      exact W.vret hx hb hr (fun t ht hW => ⟨⟨(), rfl, trivial, q2_17, g2_18, ⟨(by have h8 := insE_len (L := L) (a := 0) (b := k) (by omega) (by rw [htx.1]; exact Nat.le_refl _); omega), y_pce2 htx.1 (by rw [hdf.2.1]; exact hgt9) hu_19_1⟩, by rw [ht]; exact hP9, va_K.moved hW.alike hK9, hD9⟩, hS.F ht⟩) hS.2.2 d_O_pieces_180
end
section
def byv (S : List Int32) (a : Nat) : Nat := (S.getD a 0 &&& 255).toNatClampNeg
theorem and255 (b : Int32) : b &&& 255 = nI (b &&& 255).toNatClampNeg ∧ (b &&& 255).toNatClampNeg < 256 := by
  have h : ∀ x : BitVec 32, (Int32.ofBitVec (x &&& 255#32)) = nI (Int32.ofBitVec (x &&& 255#32)).toNatClampNeg ∧ (Int32.ofBitVec (x &&& 255#32)).toNatClampNeg < 256 := by
    intro x
    have h1 : x &&& 255#32 = BitVec.ofNat 32 (x.toNat % 256) := by
      apply BitVec.eq_of_toNat_eq
      rw [BitVec.toNat_and, BitVec.toNat_ofNat, BitVec.toNat_ofNat]
      have h2 : x.toNat &&& 255 = x.toNat % 256 := Nat.and_two_pow_sub_one_eq_mod x.toNat 8
      rw [show 255 % 2 ^ 32 = 255 from rfl, h2]
      omega
    rw [h1]
    have h3 : x.toNat % 256 < 256 := Nat.mod_lt _ (by decide)
    generalize x.toNat % 256 = y at h3
    exact (by decide +kernel : ∀ y : Fin 256, Int32.ofBitVec (BitVec.ofNat 32 y.1) = nI (Int32.ofBitVec (BitVec.ofNat 32 y.1)).toNatClampNeg ∧ (Int32.ofBitVec (BitVec.ofNat 32 y.1)).toNatClampNeg < 256) ⟨y, h3⟩
  exact h b.toBitVec
theorem byv_lt (S : List Int32) (a : Nat) : byv S a < 256 := (and255 _).2
theorem byv_eq (S : List Int32) (a : Nat) : S.getD a 0 &&& 255 = nI (byv S a) := (and255 _).1
theorem ld_byv {S : List Int32} {n T : Nat} {f : Nat → Int32} (h : tx S n f) (hT : T < n) (hn : n < 2 ^ 31) : f (Int32.toNatClampNeg (nI T)) &&& 255 = nI (byv S T) := by
  rw [nI_clamp (by omega), tx_at h hT]
  exact byv_eq S T
theorem sh_0 (x : Nat) (h : x < 128) : nI x <<< ((0 : Int32) &&& 31) = nI x := (by decide +kernel : ∀ x : Fin 128, nI x.1 <<< ((0 : Int32) &&& 31) = nI x.1) ⟨x, h⟩
theorem sh_7 (x : Nat) (h : x < 128) : nI x <<< ((7 : Int32) &&& 31) = nI (x * 128) := (by decide +kernel : ∀ x : Fin 128, nI x.1 <<< ((7 : Int32) &&& 31) = nI (x.1 * 128)) ⟨x, h⟩
theorem sh_14 (x : Nat) (h : x < 128) : nI x <<< ((14 : Int32) &&& 31) = nI (x * 16384) := (by decide +kernel : ∀ x : Fin 128, nI x.1 <<< ((14 : Int32) &&& 31) = nI (x.1 * 16384)) ⟨x, h⟩
theorem an_127 (x : Nat) (h : x < 256) : nI x &&& 127 = nI (x % 128) := (by decide +kernel : ∀ x : Fin 256, nI x.1 &&& 127 = nI (x.1 % 128)) ⟨x, h⟩
def rd (S : List Int32) (a : Nat) : Option Nat × Nat :=
  if S.length ≤ a then (none, a) else
  if byv S a < 128 then (some (byv S a % 128), a + 1) else
  if S.length ≤ a + 1 then (none, a + 1) else
  if byv S (a + 1) < 128 then (some (byv S a % 128 + byv S (a + 1) % 128 * 128), a + 1 + 1) else
  if S.length ≤ a + 1 + 1 then (none, a + 1 + 1) else
  if byv S (a + 1 + 1) < 128 then (some (byv S a % 128 + byv S (a + 1) % 128 * 128 + byv S (a + 1 + 1) % 128 * 16384), a + 1 + 1 + 1) else (none, a + 1 + 1 + 1)
def vI : Option Nat → Int32
  | some v => nI v
  | none => -1
def oB : Option Nat → Int32
  | some _ => 1
  | none => 0
theorem rd_le {S : List Int32} {a : Nat} (h : a ≤ S.length) : (rd S a).2 ≤ S.length := by
  unfold rd
  repeat' split
  all_goals first | exact h | (simp only; omega)
theorem rd_ge (S : List Int32) (a : Nat) : a ≤ (rd S a).2 := by
  unfold rd
  repeat' split
  all_goals first | exact Nat.le_refl _ | (simp only; omega)
theorem rd_some {S : List Int32} {a v : Nat} (h : (rd S a).1 = some v) : v < 2097152 ∧ a < (rd S a).2 := by
  unfold rd at h ⊢
  have h1 := byv_lt S a
  have h2 := byv_lt S (a + 1)
  have h3 := byv_lt S (a + 1 + 1)
  repeat' split
  all_goals simp_all
  all_goals omega
def sx (S : List Int32) (b0 : Nat) (fr : Nat → Int32) : Prop := (∀ j, j < S.length → fr (b0 + j) = S.getD j 0) ∧ (∀ b ∈ S, isB b) ∧ b0 + S.length ≤ 16384
theorem ld_sx {S : List Int32} {b0 T t : Nat} {fr : Nat → Int32} (h : sx S b0 fr) (e : T = b0 + t) (ht : t < S.length) : fr (Int32.toNatClampNeg (nI T)) &&& 255 = nI (byv S t) := by
  have := h.2.2
  rw [nI_clamp (by omega), e, h.1 t ht]
  exact byv_eq S t
theorem x_subLe {n a b : Nat} (hn : n < 2 ^ 30) (ha : a < 2 ^ 30) (hb : b < 2 ^ 30) : nI n ≤ nI a - nI b ↔ n + b ≤ a := by
  rw [Int32.le_iff_toInt_le, pk_sub_toInt ha hb, nI_toInt (by omega)]
  omega
theorem nar_bI (b : Bool) : narrow .boolean (.int (bI b)) = .int (bI b) := by
  cases b <;> rfl
theorem take_drop_1 {S : List Int32} {a j : Nat} (h : a + j < S.length) : (S.drop a).take (j + 1) = (S.drop a).take j ++ [S.getD (a + j) 0] := by
  rw [take_snoc (by rw [List.length_drop]; omega), getD_drop]
theorem y_mk {T S : List Int32} {n a j q : Nat} {x : Int32} {fp g : Nat → Int32} (h : tx S n fp) (hn : n < 2 ^ 31) (hj : a + j < n) (e : x = fp (Int32.toNatClampNeg (nI (a + j)))) (hu : tx (T ++ (S.drop a).take j ++ [nbb x]) q g) : tx (T ++ (S.drop a).take (j + 1)) q g := by
  rw [nI_clamp (by omega)] at e
  rw [e, show nbb (fp (a + j)) = fp (a + j) from tx_inB h hj, tx_at h hj] at hu
  rw [take_drop_1 (by rw [h.1]; exact hj), ← List.append_assoc]
  exact hu
theorem y_cp {T B : List Int32} {n a j q : Nat} {fp g : Nat → Int32} (h : tx B n fp) (hn : n < 2 ^ 31) (hj : a + j < n) (hu : tx (T ++ (B.drop a).take j ++ [nbb (bAt B (nI (a + j)))]) q g) : tx (T ++ (B.drop a).take (j + 1)) q g := by
  rw [nbb_at h hj (by omega) hn] at hu
  rw [take_drop_1 (by rw [h.1]; exact hj), ← List.append_assoc]
  exact hu
def cmd (S B T : List Int32) (a : Nat) : Option (List Int32 × Nat) :=
  match (rd S a).1 with
  | none => none
  | some h =>
    if h / 2 = 0 ∨ 256 < T.length + h / 2 then none else
    if h % 2 = 0 then (if S.length < (rd S a).2 + h / 2 then none else some (T ++ (S.drop (rd S a).2).take (h / 2), (rd S a).2 + h / 2))
    else match (rd S (rd S a).2).1 with
      | none => none
      | some p => if B.length < p + h / 2 then none else some (T ++ (B.drop p).take (h / 2), (rd S (rd S a).2).2)
theorem cmd_0 {S B T : List Int32} {a : Nat} (h : (rd S a).1 = none) : cmd S B T a = none := by
  rw [cmd, h]
theorem cmd_1 {S B T : List Int32} {a v : Nat} (h : (rd S a).1 = some v) (h1 : v / 2 = 0 ∨ 256 < T.length + v / 2) : cmd S B T a = none := by
  rw [cmd, h]
  exact if_pos h1
theorem cmd_2 {S B T : List Int32} {a v : Nat} (h : (rd S a).1 = some v) (h1 : ¬ (v / 2 = 0 ∨ 256 < T.length + v / 2)) (h2 : v % 2 = 0) : cmd S B T a = if S.length < (rd S a).2 + v / 2 then none else some (T ++ (S.drop (rd S a).2).take (v / 2), (rd S a).2 + v / 2) := by
  rw [cmd, h]
  exact (if_neg h1).trans (if_pos h2)
theorem cmd_3 {S B T : List Int32} {a v : Nat} (h : (rd S a).1 = some v) (h1 : ¬ (v / 2 = 0 ∨ 256 < T.length + v / 2)) (h2 : ¬ v % 2 = 0) (h3 : (rd S (rd S a).2).1 = none) : cmd S B T a = none := by
  rw [cmd, h]
  refine (if_neg h1).trans ((if_neg h2).trans ?_)
  rw [h3]
theorem cmd_4 {S B T : List Int32} {a v p : Nat} (h : (rd S a).1 = some v) (h1 : ¬ (v / 2 = 0 ∨ 256 < T.length + v / 2)) (h2 : ¬ v % 2 = 0) (h3 : (rd S (rd S a).2).1 = some p) : cmd S B T a = if B.length < p + v / 2 then none else some (T ++ (B.drop p).take (v / 2), (rd S (rd S a).2).2) := by
  rw [cmd, h]
  refine (if_neg h1).trans ((if_neg h2).trans ?_)
  rw [h3]
def cpc (S B T : List Int32) (a n : Nat) : Option (List Int32 × Nat) :=
  match (rd S a).1 with
  | none => none
  | some p => if B.length < p + n then none else some (T ++ (B.drop p).take n, (rd S a).2)
theorem cpc_0 {S B T : List Int32} {a n : Nat} (h : (rd S a).1 = none) : cpc S B T a n = none := by
  rw [cpc, h]
theorem cpc_1 {S B T : List Int32} {a n p : Nat} (h : (rd S a).1 = some p) (h1 : B.length < p + n) : cpc S B T a n = none := by
  rw [cpc, h]
  exact if_pos h1
theorem cpc_2 {S B T : List Int32} {a n p : Nat} (h : (rd S a).1 = some p) (h1 : ¬ B.length < p + n) : cpc S B T a n = some (T ++ (B.drop p).take n, (rd S a).2) := by
  rw [cpc, h]
  exact if_neg h1
theorem cmd_5 {S B T : List Int32} {a v : Nat} (h : (rd S a).1 = some v) (h1 : ¬ (v / 2 = 0 ∨ 256 < T.length + v / 2)) (h2 : ¬ v % 2 = 0) : cmd S B T a = cpc S B T (rd S a).2 (v / 2) := by
  rw [cmd, h]
  exact (if_neg h1).trans (if_neg h2)
def cmR (x : Option (List Int32 × Nat)) (T2 : List Int32) (a2 : Nat) : Prop := ∀ y, x = some y → T2 = y.1 ∧ a2 = y.2
theorem cmR_n {x : Option (List Int32 × Nat)} {T2 : List Int32} {a2 : Nat} (h : x = none) : cmR x T2 a2 := fun y e => by rw [h] at e; cases e
theorem cmR_s {x : Option (List Int32 × Nat)} {T2 : List Int32} {a2 : Nat} (h : x = some (T2, a2)) : cmR x T2 a2 := fun y e => by rw [h] at e; cases e; exact ⟨rfl, rfl⟩
theorem bI_ne {P : Prop} [Decidable P] (h : ¬ bI (decide P) = 0) : P := by
  rcases Decidable.em P with z | z
  · exact z
  · exact absurd (by rw [decide_eq_false z]; rfl) h
theorem bI_e0 {P : Prop} [Decidable P] (h : bI (decide P) = 0) : ¬ P := by
  intro z
  rw [decide_eq_true z] at h
  exact absurd h (by decide)
theorem cmd_lt {S B T : List Int32} {a : Nat} {y : List Int32 × Nat} (ha : a ≤ S.length) (h : cmd S B T a = some y) : a < y.2 ∧ y.2 ≤ S.length := by
  unfold cmd at h
  split at h
  · cases h
  · next v hv =>
    have h1 := (rd_some hv).2
    have h2 := rd_le ha
    have h3 := rd_ge S (rd S a).2
    have h4 := rd_le h2
    split at h
    · cases h
    · split at h
      · split at h
        · cases h
        · cases h
          refine ⟨?_, ?_⟩ <;> simp only <;> omega
      · split at h
        · cases h
        · split at h
          · cases h
          · cases h
            refine ⟨?_, ?_⟩ <;> simp only <;> omega
theorem y_sx {T S : List Int32} {b0 A a k j : Nat} {x : Int32} {fr f : Nat → Int32} (h : sx S b0 fr) (e0 : A = b0 + a) (hj : a + j < S.length) (hk : k + j < 256) (e : x = fr (Int32.toNatClampNeg (nI (A + j)))) (hu : tx (T ++ (S.drop a).take j) (k + j) f) : tx (T ++ (S.drop a).take (j + 1)) (k + (j + 1)) (upd f (k + j) (nbb x)) := by
  have h2 := h.2.2
  rw [nI_clamp (by omega), e0, Nat.add_assoc, h.1 _ hj] at e
  have hB : isB x := by
    rw [e, List.getD_eq_getElem?_getD, List.getElem?_eq_getElem hj]
    exact h.2.1 _ (List.getElem_mem _)
  rw [take_drop_1 hj, ← List.append_assoc, show nbb x = x from hB]
  rw [e] at hB ⊢
  exact tx_push hu hB
theorem y_bx {T B : List Int32} {n a k j : Nat} {x : Int32} {fb f : Nat → Int32} (h : tx B n fb) (hn : n < 2 ^ 31) (hj : a + j < n) (hk : k + j < 256) (e : x = fb (Int32.toNatClampNeg (nI (a + j)))) (hu : tx (T ++ (B.drop a).take j) (k + j) f) : tx (T ++ (B.drop a).take (j + 1)) (k + (j + 1)) (upd f (k + j) (nbb x)) := by
  rw [nI_clamp (by omega)] at e
  have hB : isB x := by rw [e]; exact tx_inB h hj
  rw [take_drop_1 (by rw [h.1]; exact hj), ← List.append_assoc, show nbb x = x from hB, ← tx_at h hj, ← e]
  exact tx_push hu hB
end
section
set_option maxHeartbeats 4000000 in
set_option maxRecDepth 100000 in
theorem g_readNumber (l : Launch) (dC : Nat → ClassId) (dI : Nat → Nat → Nat) (sz : Nat) (h0 : Nat) (v_base : Value) (v_text : Value) (hpi : Nat) (cP : ClassId) (n : Nat) (fp : Nat → Int32) (S : List Int32) (a : Nat) (hs9 : tx S n fp) (hn : n ≤ 16384) (ha : a ≤ n) : Met l y_M_readNumber k_M_readNumber ({ frames := 0, cells := 0, slots := 0, locals := 0 } : Room) (va_Pc [.ref h0] (pc_E (dC, dI) [(h0, .inr (2, [v_base, v_text, .ref hpi, .int (nI a)])), (hpi, .inl (cP, n, .inl (fp)))] [(cP, .byte)] sz)) (va_Qi (fun (r : Int32) (_ : Unit) => r = vI (rd S a).1) (fun (_ : Unit) t => ∃ (a2 : Nat), (a2 = (rd S a).2) ∧ at_E (dC, dI) (va_A [(h0, .inr (2, [v_base, v_text, .ref hpi, .int (nI a)])), (hpi, .inl (cP, n, .inl (fp)))] sz) [(h0, .inr (2, [v_base, v_text, .ref hpi, .int (nI a2)])), (hpi, .inl (cP, n, .inl (fp)))] [(cP, .byte)] t) (va_A [(h0, .inr (2, [v_base, v_text, .ref hpi, .int (nI a)])), (hpi, .inl (cP, n, .inl (fp)))] sz)) 0 0 (va_A [(h0, .inr (2, [v_base, v_text, .ref hpi, .int (nI a)])), (hpi, .inl (cP, n, .inl (fp)))] sz) := by
  refine Met.ofW (cc := prog_3_method_8_code) (maxL := 4) (ret := (some .int)) (by decide) rfl ?_
  intro p e s m args below meth c s₁ B hml hv
  obtain ⟨rfl, hsz, hP, hK, hD0, hN⟩ := hv
  have hx := B.exec
  have hb := B.bytes
  have hr := B.returns
  have hts := atoms_spec (ws := k_M_readNumber) B.pre
  have hw0 : ∀ w ∈ w0, w.before _ s = true := fun w h => hts w (List.mem_cons_of_mem _ h)
  have hown : s.vm.findClass R_M = some m.cls := findClass_of_methodNamed B.named
  have hlocks := B.notSynchronized
  subst hsz
  have hD := hD0.self (sz := s.heap.size)
  generalize hAe : va_A [(h0, .inr (2, [v_base, v_text, .ref hpi, .int (nI a)])), (hpi, .inl (cP, n, .inl (fp)))] s.heap.size = A at hD ⊢
  have hA : ∀ q : Nat, s.heap.size ≤ q → A q := fun q h => by rw [← hAe]; exact Or.inr h
  have hS : va_S A s.heap s.heap [] := va_S.rf
  have hP : va_P (dC, dI) vwCl [(h0, .inr (2, [v_base, v_text, .ref hpi, .int (nI a)])), (hpi, .inl (cP, n, .inl (fp)))] s.heap := hP
  have hl := lv_entry ([.ref h0]) (n := 4) (Nat.le_of_ble_eq_true rfl)
  rw [lg_entry_eq]
  generalize (lg_sl ([.ref h0]) ++ List.replicate (4 - (lg_sl ([.ref h0])).length) Slot.unset).toArray = ls at hl ⊢
  have hl : lv_has ls 4 [(0, .ref h0)] := hl
  have hl9 : S.length = n := hs9.1
  refine lv_iconst (v := 0) hx hb d_M_readNumber_0 (by decide) ?_
  refine lv_istore_n (lv' := [(1, .int 0), (0, .ref h0)]) hx hb d_M_readNumber_1 rfl hl (by decide) rfl (fun ls hl => ?_)
  refine lv_iconst (v := 0) hx hb d_M_readNumber_2 (by decide) ?_
  refine lv_istore_n (lv' := [(2, .int 0), (1, .int 0), (0, .ref h0)]) hx hb d_M_readNumber_3 rfl hl (by decide) rfl (fun ls hl => ?_)
  refine lv_iload_n hx hb d_M_readNumber_4 rfl (lv_at hl 0 rfl) ?_
  refine lv_iconst (v := 3) hx hb d_M_readNumber_5 (by decide) ?_
  refine lv_icmp_ge (tgt := 75) hx hb d_M_readNumber_6 (by decide) (fun h9 => absurd h9 (by decide +kernel)) (fun _ => ?_)
  refine lv_aload_n hx hb d_M_readNumber_9 rfl (lv_at hl 2 rfl) ?_
  refine va_get (D := (dC, dI)) (ci := 2) (v := .int (nI a)) (C := R_M) (T := F_M) (N := 4) hx hb hw0 in_M hown hK hP 0 rfl rfl 3 (by decide) (hw0 (.fieldLink R_M 25 "TextKeeper$Maker" "at" "I") wm_158) (fun _ h9 => h9) rfl d_M_readNumber_10 ?_
  refine lv_aload_n hx hb d_M_readNumber_13 rfl (lv_at hl 2 rfl) ?_
  refine va_get (D := (dC, dI)) (ci := 2) (v := .ref hpi) (C := R_M) (T := F_M) (N := 4) hx hb hw0 in_M hown hK hP 0 rfl rfl 2 (by decide) (hw0 (.fieldLink R_M 21 "TextKeeper$Maker" "piece" "[B") wm_157) (fun _ h9 => h9) rfl d_M_readNumber_14 ?_
  refine va_alen (v := nI n) hx hb hK hP 1 0 rfl rfl (rfl) d_M_readNumber_17 ?_
  refine lv_icmp_lt (tgt := 23) hx hb d_M_readNumber_18 (by decide) (fun c_1 => ?_) (fun c_1 => ?_)
  · have hA_3 : a < n := (nI_ltI (by omega) (by omega)).mp c_1
    refine lv_aload_n hx hb d_M_readNumber_23 rfl (lv_at hl 2 rfl) ?_
    refine va_get (D := (dC, dI)) (ci := 2) (v := .ref hpi) (C := R_M) (T := F_M) (N := 4) hx hb hw0 in_M hown hK hP 0 rfl rfl 2 (by decide) (hw0 (.fieldLink R_M 21 "TextKeeper$Maker" "piece" "[B") wm_157) (fun _ h9 => h9) rfl d_M_readNumber_24 ?_
    refine lv_aload_n hx hb d_M_readNumber_27 rfl (lv_at hl 2 rfl) ?_
    refine va_get (D := (dC, dI)) (ci := 2) (v := .int (nI a)) (C := R_M) (T := F_M) (N := 4) hx hb hw0 in_M hown hK hP 0 rfl rfl 3 (by decide) (hw0 (.fieldLink R_M 25 "TextKeeper$Maker" "at" "I") wm_158) (fun _ h9 => h9) rfl d_M_readNumber_28 ?_
    refine va_bald hx hb hK hP 1 0 rfl rfl (vp_in_nI (by omega) (by omega)) d_M_readNumber_31 ?_
    refine lv_topi (fun x_4 ex_4 => ?_)
    refine lv_sipush (v := 255) hx hb d_M_readNumber_32 (by decide +kernel) ?_
    refine lv_iand hx hb d_M_readNumber_35 ?_
    refine lv_topi (fun x_5 ex_5 => ?_)
    obtain rfl : x_5 = (nI (byv S a)) := by rw [ex_5, ex_4]; exact ld_byv hs9 (by omega) (by omega)
    clear ex_5
    refine lv_istore_n (lv' := [(3, .int (nI (byv S a))), (2, .int 0), (1, .int 0), (0, .ref h0)]) hx hb d_M_readNumber_36 rfl hl (by decide) rfl (fun ls hl => ?_)
    refine lv_aload_n hx hb d_M_readNumber_37 rfl (lv_at hl 3 rfl) ?_
    refine lv_dup hx hb d_M_readNumber_38 rfl ?_
    refine va_get (D := (dC, dI)) (ci := 2) (v := .int (nI a)) (C := R_M) (T := F_M) (N := 4) hx hb hw0 in_M hown hK hP 0 rfl rfl 3 (by decide) (hw0 (.fieldLink R_M 25 "TextKeeper$Maker" "at" "I") wm_158) (fun _ h9 => h9) rfl d_M_readNumber_39 ?_
    refine lv_iconst (v := 1) hx hb d_M_readNumber_42 (by decide) ?_
    refine lv_iadd hx hb d_M_readNumber_43 ?_
    refine lv_topi (fun x_6 ex_6 => ?_)
    obtain rfl : x_6 = (nI (a + 1)) := by rw [ex_6]; exact nI_1 (a)
    clear ex_6
    refine va_put (D := (dC, dI)) (ci := 2) (v := .int (nI (a + 1))) (ty := .int) (C := R_M) (T := F_M) (N := 4) hx hb hw0 in_M ft_M tk_M nk_M hown hK hP hD hS 0 rfl rfl 3 (by decide) (hw0 (.fieldLink R_M 25 "TextKeeper$Maker" "at" "I") wm_158) (fun _ h9 => h9) rfl (by decide +kernel) rfl rfl (Nat.le_of_ble_eq_true rfl) d_M_readNumber_44 (fun H locs hP hD hS => ?_)
    replace hP : va_P (dC, dI) vwCl [(h0, .inr (2, [v_base, v_text, .ref hpi, .int (nI (a + 1))])), (hpi, .inl (cP, n, .inl (fp)))] H := hP
    replace hD : va_D A [(h0, .inr (2, [v_base, v_text, .ref hpi, .int (nI (a + 1))])), (hpi, .inl (cP, n, .inl (fp)))] := hD
    refine lv_iload_n hx hb d_M_readNumber_47 rfl (lv_at hl 2 rfl) ?_
    refine lv_iload_n hx hb d_M_readNumber_48 rfl (lv_at hl 0 rfl) ?_
    refine lv_sipush (v := 128) hx hb d_M_readNumber_49 (by decide +kernel) ?_
    refine lv_irem hx hb d_M_readNumber_52 (by decide +kernel) ?_
    refine lv_topi (fun x_7 ex_7 => ?_)
    obtain rfl : x_7 = (nI (byv S a % 128)) := by rw [ex_7]; exact (show nI (byv S a) - nI (byv S a) / nI 128 * nI 128 = nI (byv S a % 128) from pk_rem (Nat.lt_trans (byv_lt _ _) (by decide)) (by decide) (by decide))
    clear ex_7
    refine lv_bipush (v := 7) hx hb d_M_readNumber_53 (by decide +kernel) ?_
    refine lv_iload_n hx hb d_M_readNumber_55 rfl (lv_at hl 1 rfl) ?_
    refine lv_imul hx hb d_M_readNumber_56 ?_
    refine lv_topi (fun x_8 ex_8 => ?_)
    obtain rfl : x_8 = 0 := ex_8.trans (by decide +kernel)
    clear ex_8
    refine lv_ishl hx hb d_M_readNumber_57 ?_
    refine lv_topi (fun x_9 ex_9 => ?_)
    obtain rfl : x_9 = (nI (byv S a % 128)) := by rw [ex_9]; exact sh_0 _ (Nat.mod_lt _ (by decide))
    clear ex_9
    refine lv_iadd hx hb d_M_readNumber_58 ?_
    refine lv_topi (fun x_10 ex_10 => ?_)
    obtain rfl : x_10 = (nI (byv S a % 128)) := by rw [ex_10]; exact Int32.zero_add _
    clear ex_10
    refine lv_istore_n (lv' := [(1, .int (nI (byv S a % 128))), (3, .int (nI (byv S a))), (2, .int 0), (0, .ref h0)]) hx hb d_M_readNumber_59 rfl hl (by decide) rfl (fun ls hl => ?_)
    refine lv_iload_n hx hb d_M_readNumber_60 rfl (lv_at hl 1 rfl) ?_
    refine lv_sipush (v := 128) hx hb d_M_readNumber_61 (by decide +kernel) ?_
    refine lv_icmp_ge (tgt := 69) hx hb d_M_readNumber_64 (by decide) (fun c_11 => ?_) (fun c_11 => ?_)
    · have hV_13 : ¬ byv S a < 128 := (fun z => absurd (nI_lt z (by decide)) (Int32.not_lt.mpr c_11))
      refine lv_iinc (v := 1) (lv' := [(2, .int 1), (1, .int (nI (byv S a % 128))), (3, .int (nI (byv S a))), (0, .ref h0)]) hx hb d_M_readNumber_69 hl (k := 2) rfl (by decide +kernel) (by decide) rfl (fun ls hl => ?_)
      refine lv_goto (tgt := 4) hx hb d_M_readNumber_72 (by decide) ?_
      refine lv_iload_n hx hb d_M_readNumber_4 rfl (lv_at hl 0 rfl) ?_
      refine lv_iconst (v := 3) hx hb d_M_readNumber_5 (by decide) ?_
      refine lv_icmp_ge (tgt := 75) hx hb d_M_readNumber_6 (by decide) (fun h9 => absurd h9 (by decide +kernel)) (fun _ => ?_)
      refine lv_aload_n hx hb d_M_readNumber_9 rfl (lv_at hl 3 rfl) ?_
      refine va_get (D := (dC, dI)) (ci := 2) (v := .int (nI (a + 1))) (C := R_M) (T := F_M) (N := 4) hx hb hw0 in_M hown hK hP 0 rfl rfl 3 (by decide) (hw0 (.fieldLink R_M 25 "TextKeeper$Maker" "at" "I") wm_158) (fun _ h9 => h9) rfl d_M_readNumber_10 ?_
      refine lv_aload_n hx hb d_M_readNumber_13 rfl (lv_at hl 3 rfl) ?_
      refine va_get (D := (dC, dI)) (ci := 2) (v := .ref hpi) (C := R_M) (T := F_M) (N := 4) hx hb hw0 in_M hown hK hP 0 rfl rfl 2 (by decide) (hw0 (.fieldLink R_M 21 "TextKeeper$Maker" "piece" "[B") wm_157) (fun _ h9 => h9) rfl d_M_readNumber_14 ?_
      refine va_alen (v := nI n) hx hb hK hP 1 0 rfl rfl (rfl) d_M_readNumber_17 ?_
      refine lv_icmp_lt (tgt := 23) hx hb d_M_readNumber_18 (by decide) (fun c_14 => ?_) (fun c_14 => ?_)
      · have hA_16 : a + 1 < n := (nI_ltI (by omega) (by omega)).mp c_14
        refine lv_aload_n hx hb d_M_readNumber_23 rfl (lv_at hl 3 rfl) ?_
        refine va_get (D := (dC, dI)) (ci := 2) (v := .ref hpi) (C := R_M) (T := F_M) (N := 4) hx hb hw0 in_M hown hK hP 0 rfl rfl 2 (by decide) (hw0 (.fieldLink R_M 21 "TextKeeper$Maker" "piece" "[B") wm_157) (fun _ h9 => h9) rfl d_M_readNumber_24 ?_
        refine lv_aload_n hx hb d_M_readNumber_27 rfl (lv_at hl 3 rfl) ?_
        refine va_get (D := (dC, dI)) (ci := 2) (v := .int (nI (a + 1))) (C := R_M) (T := F_M) (N := 4) hx hb hw0 in_M hown hK hP 0 rfl rfl 3 (by decide) (hw0 (.fieldLink R_M 25 "TextKeeper$Maker" "at" "I") wm_158) (fun _ h9 => h9) rfl d_M_readNumber_28 ?_
        refine va_bald hx hb hK hP 1 0 rfl rfl (vp_in_nI (by omega) (by omega)) d_M_readNumber_31 ?_
        refine lv_topi (fun x_17 ex_17 => ?_)
        refine lv_sipush (v := 255) hx hb d_M_readNumber_32 (by decide +kernel) ?_
        refine lv_iand hx hb d_M_readNumber_35 ?_
        refine lv_topi (fun x_18 ex_18 => ?_)
        obtain rfl : x_18 = (nI (byv S (a + 1))) := by rw [ex_18, ex_17]; exact ld_byv hs9 (by omega) (by omega)
        clear ex_18
        refine lv_istore_n (lv' := [(3, .int (nI (byv S (a + 1)))), (2, .int 1), (1, .int (nI (byv S a % 128))), (0, .ref h0)]) hx hb d_M_readNumber_36 rfl hl (by decide) rfl (fun ls hl => ?_)
        refine lv_aload_n hx hb d_M_readNumber_37 rfl (lv_at hl 3 rfl) ?_
        refine lv_dup hx hb d_M_readNumber_38 rfl ?_
        refine va_get (D := (dC, dI)) (ci := 2) (v := .int (nI (a + 1))) (C := R_M) (T := F_M) (N := 4) hx hb hw0 in_M hown hK hP 0 rfl rfl 3 (by decide) (hw0 (.fieldLink R_M 25 "TextKeeper$Maker" "at" "I") wm_158) (fun _ h9 => h9) rfl d_M_readNumber_39 ?_
        refine lv_iconst (v := 1) hx hb d_M_readNumber_42 (by decide) ?_
        refine lv_iadd hx hb d_M_readNumber_43 ?_
        refine lv_topi (fun x_19 ex_19 => ?_)
        obtain rfl : x_19 = (nI (a + 1 + 1)) := by rw [ex_19]; exact nI_1 (a + 1)
        clear ex_19
        refine va_put (D := (dC, dI)) (ci := 2) (v := .int (nI (a + 1 + 1))) (ty := .int) (C := R_M) (T := F_M) (N := 4) hx hb hw0 in_M ft_M tk_M nk_M hown hK hP hD hS 0 rfl rfl 3 (by decide) (hw0 (.fieldLink R_M 25 "TextKeeper$Maker" "at" "I") wm_158) (fun _ h9 => h9) rfl (by decide +kernel) rfl rfl (Nat.le_of_ble_eq_true rfl) d_M_readNumber_44 (fun H locs hP hD hS => ?_)
        replace hP : va_P (dC, dI) vwCl [(h0, .inr (2, [v_base, v_text, .ref hpi, .int (nI (a + 1 + 1))])), (hpi, .inl (cP, n, .inl (fp)))] H := hP
        replace hD : va_D A [(h0, .inr (2, [v_base, v_text, .ref hpi, .int (nI (a + 1 + 1))])), (hpi, .inl (cP, n, .inl (fp)))] := hD
        refine lv_iload_n hx hb d_M_readNumber_47 rfl (lv_at hl 2 rfl) ?_
        refine lv_iload_n hx hb d_M_readNumber_48 rfl (lv_at hl 0 rfl) ?_
        refine lv_sipush (v := 128) hx hb d_M_readNumber_49 (by decide +kernel) ?_
        refine lv_irem hx hb d_M_readNumber_52 (by decide +kernel) ?_
        refine lv_topi (fun x_20 ex_20 => ?_)
        obtain rfl : x_20 = (nI (byv S (a + 1) % 128)) := by rw [ex_20]; exact (show nI (byv S (a + 1)) - nI (byv S (a + 1)) / nI 128 * nI 128 = nI (byv S (a + 1) % 128) from pk_rem (Nat.lt_trans (byv_lt _ _) (by decide)) (by decide) (by decide))
        clear ex_20
        refine lv_bipush (v := 7) hx hb d_M_readNumber_53 (by decide +kernel) ?_
        refine lv_iload_n hx hb d_M_readNumber_55 rfl (lv_at hl 1 rfl) ?_
        refine lv_imul hx hb d_M_readNumber_56 ?_
        refine lv_topi (fun x_21 ex_21 => ?_)
        obtain rfl : x_21 = 7 := ex_21.trans (by decide +kernel)
        clear ex_21
        refine lv_ishl hx hb d_M_readNumber_57 ?_
        refine lv_topi (fun x_22 ex_22 => ?_)
        obtain rfl : x_22 = (nI (byv S (a + 1) % 128 * 128)) := by rw [ex_22]; exact sh_7 _ (Nat.mod_lt _ (by decide))
        clear ex_22
        refine lv_iadd hx hb d_M_readNumber_58 ?_
        refine lv_topi (fun x_23 ex_23 => ?_)
        obtain rfl : x_23 = (nI (byv S a % 128 + byv S (a + 1) % 128 * 128)) := by rw [ex_23]; exact nI_add (byv S a % 128) (byv S (a + 1) % 128 * 128)
        clear ex_23
        refine lv_istore_n (lv' := [(1, .int (nI (byv S a % 128 + byv S (a + 1) % 128 * 128))), (3, .int (nI (byv S (a + 1)))), (2, .int 1), (0, .ref h0)]) hx hb d_M_readNumber_59 rfl hl (by decide) rfl (fun ls hl => ?_)
        refine lv_iload_n hx hb d_M_readNumber_60 rfl (lv_at hl 1 rfl) ?_
        refine lv_sipush (v := 128) hx hb d_M_readNumber_61 (by decide +kernel) ?_
        refine lv_icmp_ge (tgt := 69) hx hb d_M_readNumber_64 (by decide) (fun c_24 => ?_) (fun c_24 => ?_)
        · have hV_26 : ¬ byv S (a + 1) < 128 := (fun z => absurd (nI_lt z (by decide)) (Int32.not_lt.mpr c_24))
          refine lv_iinc (v := 2) (lv' := [(2, .int 2), (1, .int (nI (byv S a % 128 + byv S (a + 1) % 128 * 128))), (3, .int (nI (byv S (a + 1)))), (0, .ref h0)]) hx hb d_M_readNumber_69 hl (k := 2) rfl (by decide +kernel) (by decide) rfl (fun ls hl => ?_)
          refine lv_goto (tgt := 4) hx hb d_M_readNumber_72 (by decide) ?_
          refine lv_iload_n hx hb d_M_readNumber_4 rfl (lv_at hl 0 rfl) ?_
          refine lv_iconst (v := 3) hx hb d_M_readNumber_5 (by decide) ?_
          refine lv_icmp_ge (tgt := 75) hx hb d_M_readNumber_6 (by decide) (fun h9 => absurd h9 (by decide +kernel)) (fun _ => ?_)
          refine lv_aload_n hx hb d_M_readNumber_9 rfl (lv_at hl 3 rfl) ?_
          refine va_get (D := (dC, dI)) (ci := 2) (v := .int (nI (a + 1 + 1))) (C := R_M) (T := F_M) (N := 4) hx hb hw0 in_M hown hK hP 0 rfl rfl 3 (by decide) (hw0 (.fieldLink R_M 25 "TextKeeper$Maker" "at" "I") wm_158) (fun _ h9 => h9) rfl d_M_readNumber_10 ?_
          refine lv_aload_n hx hb d_M_readNumber_13 rfl (lv_at hl 3 rfl) ?_
          refine va_get (D := (dC, dI)) (ci := 2) (v := .ref hpi) (C := R_M) (T := F_M) (N := 4) hx hb hw0 in_M hown hK hP 0 rfl rfl 2 (by decide) (hw0 (.fieldLink R_M 21 "TextKeeper$Maker" "piece" "[B") wm_157) (fun _ h9 => h9) rfl d_M_readNumber_14 ?_
          refine va_alen (v := nI n) hx hb hK hP 1 0 rfl rfl (rfl) d_M_readNumber_17 ?_
          refine lv_icmp_lt (tgt := 23) hx hb d_M_readNumber_18 (by decide) (fun c_27 => ?_) (fun c_27 => ?_)
          · have hA_29 : a + 1 + 1 < n := (nI_ltI (by omega) (by omega)).mp c_27
            refine lv_aload_n hx hb d_M_readNumber_23 rfl (lv_at hl 3 rfl) ?_
            refine va_get (D := (dC, dI)) (ci := 2) (v := .ref hpi) (C := R_M) (T := F_M) (N := 4) hx hb hw0 in_M hown hK hP 0 rfl rfl 2 (by decide) (hw0 (.fieldLink R_M 21 "TextKeeper$Maker" "piece" "[B") wm_157) (fun _ h9 => h9) rfl d_M_readNumber_24 ?_
            refine lv_aload_n hx hb d_M_readNumber_27 rfl (lv_at hl 3 rfl) ?_
            refine va_get (D := (dC, dI)) (ci := 2) (v := .int (nI (a + 1 + 1))) (C := R_M) (T := F_M) (N := 4) hx hb hw0 in_M hown hK hP 0 rfl rfl 3 (by decide) (hw0 (.fieldLink R_M 25 "TextKeeper$Maker" "at" "I") wm_158) (fun _ h9 => h9) rfl d_M_readNumber_28 ?_
            refine va_bald hx hb hK hP 1 0 rfl rfl (vp_in_nI (by omega) (by omega)) d_M_readNumber_31 ?_
            refine lv_topi (fun x_30 ex_30 => ?_)
            refine lv_sipush (v := 255) hx hb d_M_readNumber_32 (by decide +kernel) ?_
            refine lv_iand hx hb d_M_readNumber_35 ?_
            refine lv_topi (fun x_31 ex_31 => ?_)
            obtain rfl : x_31 = (nI (byv S (a + 1 + 1))) := by rw [ex_31, ex_30]; exact ld_byv hs9 (by omega) (by omega)
            clear ex_31
            refine lv_istore_n (lv' := [(3, .int (nI (byv S (a + 1 + 1)))), (2, .int 2), (1, .int (nI (byv S a % 128 + byv S (a + 1) % 128 * 128))), (0, .ref h0)]) hx hb d_M_readNumber_36 rfl hl (by decide) rfl (fun ls hl => ?_)
            refine lv_aload_n hx hb d_M_readNumber_37 rfl (lv_at hl 3 rfl) ?_
            refine lv_dup hx hb d_M_readNumber_38 rfl ?_
            refine va_get (D := (dC, dI)) (ci := 2) (v := .int (nI (a + 1 + 1))) (C := R_M) (T := F_M) (N := 4) hx hb hw0 in_M hown hK hP 0 rfl rfl 3 (by decide) (hw0 (.fieldLink R_M 25 "TextKeeper$Maker" "at" "I") wm_158) (fun _ h9 => h9) rfl d_M_readNumber_39 ?_
            refine lv_iconst (v := 1) hx hb d_M_readNumber_42 (by decide) ?_
            refine lv_iadd hx hb d_M_readNumber_43 ?_
            refine lv_topi (fun x_32 ex_32 => ?_)
            obtain rfl : x_32 = (nI (a + 1 + 1 + 1)) := by rw [ex_32]; exact nI_1 (a + 1 + 1)
            clear ex_32
            refine va_put (D := (dC, dI)) (ci := 2) (v := .int (nI (a + 1 + 1 + 1))) (ty := .int) (C := R_M) (T := F_M) (N := 4) hx hb hw0 in_M ft_M tk_M nk_M hown hK hP hD hS 0 rfl rfl 3 (by decide) (hw0 (.fieldLink R_M 25 "TextKeeper$Maker" "at" "I") wm_158) (fun _ h9 => h9) rfl (by decide +kernel) rfl rfl (Nat.le_of_ble_eq_true rfl) d_M_readNumber_44 (fun H locs hP hD hS => ?_)
            replace hP : va_P (dC, dI) vwCl [(h0, .inr (2, [v_base, v_text, .ref hpi, .int (nI (a + 1 + 1 + 1))])), (hpi, .inl (cP, n, .inl (fp)))] H := hP
            replace hD : va_D A [(h0, .inr (2, [v_base, v_text, .ref hpi, .int (nI (a + 1 + 1 + 1))])), (hpi, .inl (cP, n, .inl (fp)))] := hD
            refine lv_iload_n hx hb d_M_readNumber_47 rfl (lv_at hl 2 rfl) ?_
            refine lv_iload_n hx hb d_M_readNumber_48 rfl (lv_at hl 0 rfl) ?_
            refine lv_sipush (v := 128) hx hb d_M_readNumber_49 (by decide +kernel) ?_
            refine lv_irem hx hb d_M_readNumber_52 (by decide +kernel) ?_
            refine lv_topi (fun x_33 ex_33 => ?_)
            obtain rfl : x_33 = (nI (byv S (a + 1 + 1) % 128)) := by rw [ex_33]; exact (show nI (byv S (a + 1 + 1)) - nI (byv S (a + 1 + 1)) / nI 128 * nI 128 = nI (byv S (a + 1 + 1) % 128) from pk_rem (Nat.lt_trans (byv_lt _ _) (by decide)) (by decide) (by decide))
            clear ex_33
            refine lv_bipush (v := 7) hx hb d_M_readNumber_53 (by decide +kernel) ?_
            refine lv_iload_n hx hb d_M_readNumber_55 rfl (lv_at hl 1 rfl) ?_
            refine lv_imul hx hb d_M_readNumber_56 ?_
            refine lv_topi (fun x_34 ex_34 => ?_)
            obtain rfl : x_34 = 14 := ex_34.trans (by decide +kernel)
            clear ex_34
            refine lv_ishl hx hb d_M_readNumber_57 ?_
            refine lv_topi (fun x_35 ex_35 => ?_)
            obtain rfl : x_35 = (nI (byv S (a + 1 + 1) % 128 * 16384)) := by rw [ex_35]; exact sh_14 _ (Nat.mod_lt _ (by decide))
            clear ex_35
            refine lv_iadd hx hb d_M_readNumber_58 ?_
            refine lv_topi (fun x_36 ex_36 => ?_)
            obtain rfl : x_36 = (nI (byv S a % 128 + byv S (a + 1) % 128 * 128 + byv S (a + 1 + 1) % 128 * 16384)) := by rw [ex_36]; exact nI_add (byv S a % 128 + byv S (a + 1) % 128 * 128) (byv S (a + 1 + 1) % 128 * 16384)
            clear ex_36
            refine lv_istore_n (lv' := [(1, .int (nI (byv S a % 128 + byv S (a + 1) % 128 * 128 + byv S (a + 1 + 1) % 128 * 16384))), (3, .int (nI (byv S (a + 1 + 1)))), (2, .int 2), (0, .ref h0)]) hx hb d_M_readNumber_59 rfl hl (by decide) rfl (fun ls hl => ?_)
            refine lv_iload_n hx hb d_M_readNumber_60 rfl (lv_at hl 1 rfl) ?_
            refine lv_sipush (v := 128) hx hb d_M_readNumber_61 (by decide +kernel) ?_
            refine lv_icmp_ge (tgt := 69) hx hb d_M_readNumber_64 (by decide) (fun c_37 => ?_) (fun c_37 => ?_)
            · have hV_39 : ¬ byv S (a + 1 + 1) < 128 := (fun z => absurd (nI_lt z (by decide)) (Int32.not_lt.mpr c_37))
              refine lv_iinc (v := 3) (lv' := [(2, .int 3), (1, .int (nI (byv S a % 128 + byv S (a + 1) % 128 * 128 + byv S (a + 1 + 1) % 128 * 16384))), (3, .int (nI (byv S (a + 1 + 1)))), (0, .ref h0)]) hx hb d_M_readNumber_69 hl (k := 2) rfl (by decide +kernel) (by decide) rfl (fun ls hl => ?_)
              refine lv_goto (tgt := 4) hx hb d_M_readNumber_72 (by decide) ?_
              refine lv_iload_n hx hb d_M_readNumber_4 rfl (lv_at hl 0 rfl) ?_
              refine lv_iconst (v := 3) hx hb d_M_readNumber_5 (by decide) ?_
              refine lv_icmp_ge (tgt := 75) hx hb d_M_readNumber_6 (by decide) (fun _ => ?_) (fun h9 => absurd h9 (by decide +kernel))
              refine lv_iconst (v := (-1)) hx hb d_M_readNumber_75 (by decide) ?_
              have hP9 := hP.sub (ws' := [(h0, .inr (2, [v_base, v_text, .ref hpi, .int (nI (a + 1 + 1 + 1))])), (hpi, .inl (cP, n, .inl (fp)))]) [0, 1] rfl
              have hD9 := hD.sub (ws' := [(h0, .inr (2, [v_base, v_text, .ref hpi, .int (nI (a + 1 + 1 + 1))])), (hpi, .inl (cP, n, .inl (fp)))]) [0, 1] (by decide) rfl
              have hK9 := hK.sub (tys' := [(cP, .byte)]) [0] rfl
              exact W.iret (v := (-1)) hx hb hr (fun t ht hW => ⟨⟨(-1), (), rfl, (by rw [rd, if_neg (by omega), if_neg (by omega), if_neg (by omega), if_neg (by omega), if_neg (by omega), if_neg (by omega)]; rfl), (a + 1 + 1 + 1), (by rw [rd, if_neg (by omega), if_neg (by omega), if_neg (by omega), if_neg (by omega), if_neg (by omega), if_neg (by omega)]), by rw [ht]; exact hP9, va_K.moved hW.alike hK9, hD9⟩, hS.F ht⟩) hS.2.2 d_M_readNumber_76
            · have hV_38 : byv S (a + 1 + 1) < 128 := (by rcases Nat.lt_or_ge (byv S (a + 1 + 1)) 128 with z | z; exact z; exact absurd (show nI 128 ≤ nI (byv S (a + 1 + 1)) from nI_le z (Nat.lt_trans (byv_lt _ _) (by decide))) c_37)
              refine lv_iload_n hx hb d_M_readNumber_67 rfl (lv_at hl 0 rfl) ?_
              have hP9 := hP.sub (ws' := [(h0, .inr (2, [v_base, v_text, .ref hpi, .int (nI (a + 1 + 1 + 1))])), (hpi, .inl (cP, n, .inl (fp)))]) [0, 1] rfl
              have hD9 := hD.sub (ws' := [(h0, .inr (2, [v_base, v_text, .ref hpi, .int (nI (a + 1 + 1 + 1))])), (hpi, .inl (cP, n, .inl (fp)))]) [0, 1] (by decide) rfl
              have hK9 := hK.sub (tys' := [(cP, .byte)]) [0] rfl
              exact W.iret (v := (nI (byv S a % 128 + byv S (a + 1) % 128 * 128 + byv S (a + 1 + 1) % 128 * 16384))) hx hb hr (fun t ht hW => ⟨⟨(nI (byv S a % 128 + byv S (a + 1) % 128 * 128 + byv S (a + 1 + 1) % 128 * 16384)), (), rfl, (by rw [rd, if_neg (by omega), if_neg (by omega), if_neg (by omega), if_neg (by omega), if_neg (by omega), if_pos (by omega)]; rfl), (a + 1 + 1 + 1), (by rw [rd, if_neg (by omega), if_neg (by omega), if_neg (by omega), if_neg (by omega), if_neg (by omega), if_pos (by omega)]), by rw [ht]; exact hP9, va_K.moved hW.alike hK9, hD9⟩, hS.F ht⟩) hS.2.2 d_M_readNumber_68
          · have hA_28 : ¬ a + 1 + 1 < n := (fun z => c_27 ((nI_ltI (by omega) (by omega)).mpr z))
            refine lv_iconst (v := (-1)) hx hb d_M_readNumber_21 (by decide) ?_
            have hP9 := hP.sub (ws' := [(h0, .inr (2, [v_base, v_text, .ref hpi, .int (nI (a + 1 + 1))])), (hpi, .inl (cP, n, .inl (fp)))]) [0, 1] rfl
            have hD9 := hD.sub (ws' := [(h0, .inr (2, [v_base, v_text, .ref hpi, .int (nI (a + 1 + 1))])), (hpi, .inl (cP, n, .inl (fp)))]) [0, 1] (by decide) rfl
            have hK9 := hK.sub (tys' := [(cP, .byte)]) [0] rfl
            exact W.iret (v := (-1)) hx hb hr (fun t ht hW => ⟨⟨(-1), (), rfl, (by rw [rd, if_neg (by omega), if_neg (by omega), if_neg (by omega), if_neg (by omega), if_pos (by omega)]; rfl), (a + 1 + 1), (by rw [rd, if_neg (by omega), if_neg (by omega), if_neg (by omega), if_neg (by omega), if_pos (by omega)]), by rw [ht]; exact hP9, va_K.moved hW.alike hK9, hD9⟩, hS.F ht⟩) hS.2.2 d_M_readNumber_22
        · have hV_25 : byv S (a + 1) < 128 := (by rcases Nat.lt_or_ge (byv S (a + 1)) 128 with z | z; exact z; exact absurd (show nI 128 ≤ nI (byv S (a + 1)) from nI_le z (Nat.lt_trans (byv_lt _ _) (by decide))) c_24)
          refine lv_iload_n hx hb d_M_readNumber_67 rfl (lv_at hl 0 rfl) ?_
          have hP9 := hP.sub (ws' := [(h0, .inr (2, [v_base, v_text, .ref hpi, .int (nI (a + 1 + 1))])), (hpi, .inl (cP, n, .inl (fp)))]) [0, 1] rfl
          have hD9 := hD.sub (ws' := [(h0, .inr (2, [v_base, v_text, .ref hpi, .int (nI (a + 1 + 1))])), (hpi, .inl (cP, n, .inl (fp)))]) [0, 1] (by decide) rfl
          have hK9 := hK.sub (tys' := [(cP, .byte)]) [0] rfl
          exact W.iret (v := (nI (byv S a % 128 + byv S (a + 1) % 128 * 128))) hx hb hr (fun t ht hW => ⟨⟨(nI (byv S a % 128 + byv S (a + 1) % 128 * 128)), (), rfl, (by rw [rd, if_neg (by omega), if_neg (by omega), if_neg (by omega), if_pos (by omega)]; rfl), (a + 1 + 1), (by rw [rd, if_neg (by omega), if_neg (by omega), if_neg (by omega), if_pos (by omega)]), by rw [ht]; exact hP9, va_K.moved hW.alike hK9, hD9⟩, hS.F ht⟩) hS.2.2 d_M_readNumber_68
      · have hA_15 : ¬ a + 1 < n := (fun z => c_14 ((nI_ltI (by omega) (by omega)).mpr z))
        refine lv_iconst (v := (-1)) hx hb d_M_readNumber_21 (by decide) ?_
        have hP9 := hP.sub (ws' := [(h0, .inr (2, [v_base, v_text, .ref hpi, .int (nI (a + 1))])), (hpi, .inl (cP, n, .inl (fp)))]) [0, 1] rfl
        have hD9 := hD.sub (ws' := [(h0, .inr (2, [v_base, v_text, .ref hpi, .int (nI (a + 1))])), (hpi, .inl (cP, n, .inl (fp)))]) [0, 1] (by decide) rfl
        have hK9 := hK.sub (tys' := [(cP, .byte)]) [0] rfl
        exact W.iret (v := (-1)) hx hb hr (fun t ht hW => ⟨⟨(-1), (), rfl, (by rw [rd, if_neg (by omega), if_neg (by omega), if_pos (by omega)]; rfl), (a + 1), (by rw [rd, if_neg (by omega), if_neg (by omega), if_pos (by omega)]), by rw [ht]; exact hP9, va_K.moved hW.alike hK9, hD9⟩, hS.F ht⟩) hS.2.2 d_M_readNumber_22
    · have hV_12 : byv S a < 128 := (by rcases Nat.lt_or_ge (byv S a) 128 with z | z; exact z; exact absurd (show nI 128 ≤ nI (byv S a) from nI_le z (Nat.lt_trans (byv_lt _ _) (by decide))) c_11)
      refine lv_iload_n hx hb d_M_readNumber_67 rfl (lv_at hl 0 rfl) ?_
      have hP9 := hP.sub (ws' := [(h0, .inr (2, [v_base, v_text, .ref hpi, .int (nI (a + 1))])), (hpi, .inl (cP, n, .inl (fp)))]) [0, 1] rfl
      have hD9 := hD.sub (ws' := [(h0, .inr (2, [v_base, v_text, .ref hpi, .int (nI (a + 1))])), (hpi, .inl (cP, n, .inl (fp)))]) [0, 1] (by decide) rfl
      have hK9 := hK.sub (tys' := [(cP, .byte)]) [0] rfl
      exact W.iret (v := (nI (byv S a % 128))) hx hb hr (fun t ht hW => ⟨⟨(nI (byv S a % 128)), (), rfl, (by rw [rd, if_neg (by omega), if_pos (by omega)]; rfl), (a + 1), (by rw [rd, if_neg (by omega), if_pos (by omega)]), by rw [ht]; exact hP9, va_K.moved hW.alike hK9, hD9⟩, hS.F ht⟩) hS.2.2 d_M_readNumber_68
  · have hA_2 : ¬ a < n := (fun z => c_1 ((nI_ltI (by omega) (by omega)).mpr z))
    refine lv_iconst (v := (-1)) hx hb d_M_readNumber_21 (by decide) ?_
    have hP9 := hP.sub (ws' := [(h0, .inr (2, [v_base, v_text, .ref hpi, .int (nI (a))])), (hpi, .inl (cP, n, .inl (fp)))]) [0, 1] rfl
    have hD9 := hD.sub (ws' := [(h0, .inr (2, [v_base, v_text, .ref hpi, .int (nI (a))])), (hpi, .inl (cP, n, .inl (fp)))]) [0, 1] (by decide) rfl
    have hK9 := hK.sub (tys' := [(cP, .byte)]) [0] rfl
    exact W.iret (v := (-1)) hx hb hr (fun t ht hW => ⟨⟨(-1), (), rfl, (by rw [rd, if_pos (by omega)]; rfl), (a), (by rw [rd, if_pos (by omega)]), by rw [ht]; exact hP9, va_K.moved hW.alike hK9, hD9⟩, hS.F ht⟩) hS.2.2 d_M_readNumber_22
set_option maxHeartbeats 4000000 in
set_option maxRecDepth 100000 in
theorem o_number (l : Launch) (dC : Nat → ClassId) (dI : Nat → Nat → Nat) (sz : Nat) (h0 : Nat) (i_thrown : Int32) (i_down : Int32) (i_lasts : Int32) (v_buffer : Value) (i_size : Int32) (i_documents : Int32) (v_gone : Value) (v_first : Value) (v_many : Value) (v_lengths : Value) (v_authors : Value) (v_sums : Value) (v_made : Value) (i_madeSize : Int32) (v_base : Value) (i_baseSize : Int32) (v_text : Value) (i_textSize : Int32) (i_textSteps : Int32) (v_other : Value) (i_otherSize : Int32) (v_piece : Value) (i_pieceSize : Int32) (i_value : Int32) (hrow : Nat) (cW : ClassId) (fr : Nat → Int32) (S : List Int32) (ab : Nat) (en : Nat) (b0 : Nat) (a : Nat) (hsx : sx S b0 fr) (hab : ab = b0 + a) (hen : en = b0 + S.length) (ha : a ≤ S.length) : Met l y_O_number k_O_number ({ frames := 0, cells := 0, slots := 0, locals := 0 } : Room) (va_Pc [.ref h0] (pc_E (dC, dI) [(h0, .inr (7, [.int i_thrown, .int i_down, .int i_lasts, v_buffer, .int i_size, .int i_documents, v_gone, v_first, v_many, v_lengths, v_authors, v_sums, .ref hrow, v_made, .int i_madeSize, v_base, .int i_baseSize, v_text, .int i_textSize, .int i_textSteps, v_other, .int i_otherSize, v_piece, .int i_pieceSize, .int (nI ab), .int (nI en), .int i_value])), (hrow, .inl (cW, 16384, .inl (fr)))] [(cW, .byte)] sz)) (va_Qi (fun (r : Int32) (_ : Unit) => r = oB (rd S a).1) (fun (_ : Unit) t => ∃ (a2 : Nat) (vv : Int32), (a2 = b0 + (rd S a).2 ∧ ∀ v, (rd S a).1 = some v → vv = nI v) ∧ at_E (dC, dI) (va_A [(h0, .inr (7, [.int i_thrown, .int i_down, .int i_lasts, v_buffer, .int i_size, .int i_documents, v_gone, v_first, v_many, v_lengths, v_authors, v_sums, .ref hrow, v_made, .int i_madeSize, v_base, .int i_baseSize, v_text, .int i_textSize, .int i_textSteps, v_other, .int i_otherSize, v_piece, .int i_pieceSize, .int (nI ab), .int (nI en), .int i_value])), (hrow, .inl (cW, 16384, .inl (fr)))] sz) [(h0, .inr (7, [.int i_thrown, .int i_down, .int i_lasts, v_buffer, .int i_size, .int i_documents, v_gone, v_first, v_many, v_lengths, v_authors, v_sums, .ref hrow, v_made, .int i_madeSize, v_base, .int i_baseSize, v_text, .int i_textSize, .int i_textSteps, v_other, .int i_otherSize, v_piece, .int i_pieceSize, .int (nI a2), .int (nI en), .int vv])), (hrow, .inl (cW, 16384, .inl (fr)))] [(cW, .byte)] t) (va_A [(h0, .inr (7, [.int i_thrown, .int i_down, .int i_lasts, v_buffer, .int i_size, .int i_documents, v_gone, v_first, v_many, v_lengths, v_authors, v_sums, .ref hrow, v_made, .int i_madeSize, v_base, .int i_baseSize, v_text, .int i_textSize, .int i_textSteps, v_other, .int i_otherSize, v_piece, .int i_pieceSize, .int (nI ab), .int (nI en), .int i_value])), (hrow, .inl (cW, 16384, .inl (fr)))] sz)) 0 0 (va_A [(h0, .inr (7, [.int i_thrown, .int i_down, .int i_lasts, v_buffer, .int i_size, .int i_documents, v_gone, v_first, v_many, v_lengths, v_authors, v_sums, .ref hrow, v_made, .int i_madeSize, v_base, .int i_baseSize, v_text, .int i_textSize, .int i_textSteps, v_other, .int i_otherSize, v_piece, .int i_pieceSize, .int (nI ab), .int (nI en), .int i_value])), (hrow, .inl (cW, 16384, .inl (fr)))] sz) := by
  refine Met.ofW (cc := prog_9_method_17_code) (maxL := 3) (ret := (some .boolean)) (by decide) rfl ?_
  intro p e s m args below meth c s₁ B hml hv
  obtain ⟨rfl, hsz, hP, hK, hD0, hN⟩ := hv
  have hx := B.exec
  have hb := B.bytes
  have hr := B.returns
  have hts := atoms_spec (ws := k_O_number) B.pre
  have hw0 : ∀ w ∈ w0, w.before _ s = true := fun w h => hts w (List.mem_cons_of_mem _ h)
  have hown : s.vm.findClass R_O = some m.cls := findClass_of_methodNamed B.named
  have hlocks := B.notSynchronized
  subst hsz
  have hD := hD0.self (sz := s.heap.size)
  generalize hAe : va_A [(h0, .inr (7, [.int i_thrown, .int i_down, .int i_lasts, v_buffer, .int i_size, .int i_documents, v_gone, v_first, v_many, v_lengths, v_authors, v_sums, .ref hrow, v_made, .int i_madeSize, v_base, .int i_baseSize, v_text, .int i_textSize, .int i_textSteps, v_other, .int i_otherSize, v_piece, .int i_pieceSize, .int (nI ab), .int (nI en), .int i_value])), (hrow, .inl (cW, 16384, .inl (fr)))] s.heap.size = A at hD ⊢
  have hA : ∀ q : Nat, s.heap.size ≤ q → A q := fun q h => by rw [← hAe]; exact Or.inr h
  have hS : va_S A s.heap s.heap [] := va_S.rf
  have hP : va_P (dC, dI) vwCl [(h0, .inr (7, [.int i_thrown, .int i_down, .int i_lasts, v_buffer, .int i_size, .int i_documents, v_gone, v_first, v_many, v_lengths, v_authors, v_sums, .ref hrow, v_made, .int i_madeSize, v_base, .int i_baseSize, v_text, .int i_textSize, .int i_textSteps, v_other, .int i_otherSize, v_piece, .int i_pieceSize, .int (nI ab), .int (nI en), .int i_value])), (hrow, .inl (cW, 16384, .inl (fr)))] s.heap := hP
  have hl := lv_entry ([.ref h0]) (n := 3) (Nat.le_of_ble_eq_true rfl)
  rw [lg_entry_eq]
  generalize (lg_sl ([.ref h0]) ++ List.replicate (3 - (lg_sl ([.ref h0])).length) Slot.unset).toArray = ls at hl ⊢
  have hl : lv_has ls 3 [(0, .ref h0)] := hl
  have hl9 := hsx.2.2
  refine lv_aload_n hx hb d_O_number_0 rfl (lv_at hl 0 rfl) ?_
  refine lv_iconst (v := 0) hx hb d_O_number_1 (by decide) ?_
  refine va_put (D := (dC, dI)) (ci := 7) (v := .int 0) (ty := .int) (C := R_O) (T := F_O) (N := 27) hx hb hw0 in_O ft_O tk_O nk_O hown hK hP hD hS 0 rfl rfl 26 (by decide) (hw0 (.fieldLink R_O 100 "TextKeeperModel" "value" "I") wm_261) (fun _ h9 => h9) rfl (by decide +kernel) rfl rfl (Nat.le_of_ble_eq_true rfl) d_O_number_2 (fun H locs hP hD hS => ?_)
  replace hP : va_P (dC, dI) vwCl [(h0, .inr (7, [.int i_thrown, .int i_down, .int i_lasts, v_buffer, .int i_size, .int i_documents, v_gone, v_first, v_many, v_lengths, v_authors, v_sums, .ref hrow, v_made, .int i_madeSize, v_base, .int i_baseSize, v_text, .int i_textSize, .int i_textSteps, v_other, .int i_otherSize, v_piece, .int i_pieceSize, .int (nI ab), .int (nI en), .int 0])), (hrow, .inl (cW, 16384, .inl (fr)))] H := hP
  replace hD : va_D A [(h0, .inr (7, [.int i_thrown, .int i_down, .int i_lasts, v_buffer, .int i_size, .int i_documents, v_gone, v_first, v_many, v_lengths, v_authors, v_sums, .ref hrow, v_made, .int i_madeSize, v_base, .int i_baseSize, v_text, .int i_textSize, .int i_textSteps, v_other, .int i_otherSize, v_piece, .int i_pieceSize, .int (nI ab), .int (nI en), .int 0])), (hrow, .inl (cW, 16384, .inl (fr)))] := hD
  refine lv_iconst (v := 0) hx hb d_O_number_5 (by decide) ?_
  refine lv_istore_n (lv' := [(1, .int 0), (0, .ref h0)]) hx hb d_O_number_6 rfl hl (by decide) rfl (fun ls hl => ?_)
  refine lv_iload_n hx hb d_O_number_7 rfl (lv_at hl 0 rfl) ?_
  refine lv_iconst (v := 3) hx hb d_O_number_8 (by decide) ?_
  refine lv_icmp_ge (tgt := 82) hx hb d_O_number_9 (by decide) (fun h9 => absurd h9 (by decide +kernel)) (fun _ => ?_)
  refine lv_aload_n hx hb d_O_number_12 rfl (lv_at hl 1 rfl) ?_
  refine va_get (D := (dC, dI)) (ci := 7) (v := .int (nI ab)) (C := R_O) (T := F_O) (N := 27) hx hb hw0 in_O hown hK hP 0 rfl rfl 24 (by decide) (hw0 (.fieldLink R_O 103 "TextKeeperModel" "at" "I") wm_262) (fun _ h9 => h9) rfl d_O_number_13 ?_
  refine lv_aload_n hx hb d_O_number_16 rfl (lv_at hl 1 rfl) ?_
  refine va_get (D := (dC, dI)) (ci := 7) (v := .int (nI en)) (C := R_O) (T := F_O) (N := 27) hx hb hw0 in_O hown hK hP 0 rfl rfl 25 (by decide) (hw0 (.fieldLink R_O 106 "TextKeeperModel" "end" "I") wm_263) (fun _ h9 => h9) rfl d_O_number_17 ?_
  refine lv_icmp_ne (tgt := 25) hx hb d_O_number_20 (by decide) (fun c_1 => ?_) (fun c_1 => ?_)
  · have hA_3 : a < S.length := (by rcases Nat.lt_or_ge (a) S.length with z | z; exact z; exact absurd (show nI (ab) = nI en from congrArg nI (by omega)) c_1)
    refine lv_aload_n hx hb d_O_number_25 rfl (lv_at hl 1 rfl) ?_
    refine va_get (D := (dC, dI)) (ci := 7) (v := .ref hrow) (C := R_O) (T := F_O) (N := 27) hx hb hw0 in_O hown hK hP 0 rfl rfl 12 (by decide) (hw0 (.fieldLink R_O 38 "TextKeeperModel" "row" "[B") wm_264) (fun _ h9 => h9) rfl d_O_number_26 ?_
    refine lv_aload_n hx hb d_O_number_29 rfl (lv_at hl 1 rfl) ?_
    refine va_get (D := (dC, dI)) (ci := 7) (v := .int (nI ab)) (C := R_O) (T := F_O) (N := 27) hx hb hw0 in_O hown hK hP 0 rfl rfl 24 (by decide) (hw0 (.fieldLink R_O 103 "TextKeeperModel" "at" "I") wm_262) (fun _ h9 => h9) rfl d_O_number_30 ?_
    refine va_bald hx hb hK hP 1 0 rfl rfl (vp_in_nI (by omega) (by decide)) d_O_number_33 ?_
    refine lv_topi (fun x_4 ex_4 => ?_)
    refine lv_sipush (v := 255) hx hb d_O_number_34 (by decide +kernel) ?_
    refine lv_iand hx hb d_O_number_37 ?_
    refine lv_topi (fun x_5 ex_5 => ?_)
    obtain rfl : x_5 = (nI (byv S a)) := by rw [ex_5, ex_4]; exact ld_sx hsx (by omega) (by omega)
    clear ex_5
    refine lv_istore_n (lv' := [(2, .int (nI (byv S a))), (1, .int 0), (0, .ref h0)]) hx hb d_O_number_38 rfl hl (by decide) rfl (fun ls hl => ?_)
    refine lv_aload_n hx hb d_O_number_39 rfl (lv_at hl 2 rfl) ?_
    refine lv_dup hx hb d_O_number_40 rfl ?_
    refine va_get (D := (dC, dI)) (ci := 7) (v := .int (nI ab)) (C := R_O) (T := F_O) (N := 27) hx hb hw0 in_O hown hK hP 0 rfl rfl 24 (by decide) (hw0 (.fieldLink R_O 103 "TextKeeperModel" "at" "I") wm_262) (fun _ h9 => h9) rfl d_O_number_41 ?_
    refine lv_iconst (v := 1) hx hb d_O_number_44 (by decide) ?_
    refine lv_iadd hx hb d_O_number_45 ?_
    refine lv_topi (fun x_6 ex_6 => ?_)
    obtain rfl : x_6 = (nI (ab + 1)) := by rw [ex_6]; exact nI_1 (ab)
    clear ex_6
    refine va_put (D := (dC, dI)) (ci := 7) (v := .int (nI (ab + 1))) (ty := .int) (C := R_O) (T := F_O) (N := 27) hx hb hw0 in_O ft_O tk_O nk_O hown hK hP hD hS 0 rfl rfl 24 (by decide) (hw0 (.fieldLink R_O 103 "TextKeeperModel" "at" "I") wm_262) (fun _ h9 => h9) rfl (by decide +kernel) rfl rfl (Nat.le_of_ble_eq_true rfl) d_O_number_46 (fun H locs hP hD hS => ?_)
    replace hP : va_P (dC, dI) vwCl [(h0, .inr (7, [.int i_thrown, .int i_down, .int i_lasts, v_buffer, .int i_size, .int i_documents, v_gone, v_first, v_many, v_lengths, v_authors, v_sums, .ref hrow, v_made, .int i_madeSize, v_base, .int i_baseSize, v_text, .int i_textSize, .int i_textSteps, v_other, .int i_otherSize, v_piece, .int i_pieceSize, .int (nI (ab + 1)), .int (nI en), .int 0])), (hrow, .inl (cW, 16384, .inl (fr)))] H := hP
    replace hD : va_D A [(h0, .inr (7, [.int i_thrown, .int i_down, .int i_lasts, v_buffer, .int i_size, .int i_documents, v_gone, v_first, v_many, v_lengths, v_authors, v_sums, .ref hrow, v_made, .int i_madeSize, v_base, .int i_baseSize, v_text, .int i_textSize, .int i_textSteps, v_other, .int i_otherSize, v_piece, .int i_pieceSize, .int (nI (ab + 1)), .int (nI en), .int 0])), (hrow, .inl (cW, 16384, .inl (fr)))] := hD
    refine lv_aload_n hx hb d_O_number_49 rfl (lv_at hl 2 rfl) ?_
    refine lv_dup hx hb d_O_number_50 rfl ?_
    refine va_get (D := (dC, dI)) (ci := 7) (v := .int 0) (C := R_O) (T := F_O) (N := 27) hx hb hw0 in_O hown hK hP 0 rfl rfl 26 (by decide) (hw0 (.fieldLink R_O 100 "TextKeeperModel" "value" "I") wm_261) (fun _ h9 => h9) rfl d_O_number_51 ?_
    refine lv_iload_n hx hb d_O_number_54 rfl (lv_at hl 0 rfl) ?_
    refine lv_bipush (v := 127) hx hb d_O_number_55 (by decide +kernel) ?_
    refine lv_iand hx hb d_O_number_57 ?_
    refine lv_topi (fun x_7 ex_7 => ?_)
    obtain rfl : x_7 = (nI (byv S a % 128)) := by rw [ex_7]; exact an_127 _ (byv_lt _ _)
    clear ex_7
    refine lv_bipush (v := 7) hx hb d_O_number_58 (by decide +kernel) ?_
    refine lv_iload_n hx hb d_O_number_60 rfl (lv_at hl 1 rfl) ?_
    refine lv_imul hx hb d_O_number_61 ?_
    refine lv_topi (fun x_8 ex_8 => ?_)
    obtain rfl : x_8 = 0 := ex_8.trans (by decide +kernel)
    clear ex_8
    refine lv_ishl hx hb d_O_number_62 ?_
    refine lv_topi (fun x_9 ex_9 => ?_)
    obtain rfl : x_9 = (nI (byv S a % 128)) := by rw [ex_9]; exact sh_0 _ (Nat.mod_lt _ (by decide))
    clear ex_9
    refine lv_iadd hx hb d_O_number_63 ?_
    refine lv_topi (fun x_10 ex_10 => ?_)
    obtain rfl : x_10 = (nI (byv S a % 128)) := by rw [ex_10]; exact Int32.zero_add _
    clear ex_10
    refine va_put (D := (dC, dI)) (ci := 7) (v := .int (nI (byv S a % 128))) (ty := .int) (C := R_O) (T := F_O) (N := 27) hx hb hw0 in_O ft_O tk_O nk_O hown hK hP hD hS 0 rfl rfl 26 (by decide) (hw0 (.fieldLink R_O 100 "TextKeeperModel" "value" "I") wm_261) (fun _ h9 => h9) rfl (by decide +kernel) rfl rfl (Nat.le_of_ble_eq_true rfl) d_O_number_64 (fun H locs hP hD hS => ?_)
    replace hP : va_P (dC, dI) vwCl [(h0, .inr (7, [.int i_thrown, .int i_down, .int i_lasts, v_buffer, .int i_size, .int i_documents, v_gone, v_first, v_many, v_lengths, v_authors, v_sums, .ref hrow, v_made, .int i_madeSize, v_base, .int i_baseSize, v_text, .int i_textSize, .int i_textSteps, v_other, .int i_otherSize, v_piece, .int i_pieceSize, .int (nI (ab + 1)), .int (nI en), .int (nI (byv S a % 128))])), (hrow, .inl (cW, 16384, .inl (fr)))] H := hP
    replace hD : va_D A [(h0, .inr (7, [.int i_thrown, .int i_down, .int i_lasts, v_buffer, .int i_size, .int i_documents, v_gone, v_first, v_many, v_lengths, v_authors, v_sums, .ref hrow, v_made, .int i_madeSize, v_base, .int i_baseSize, v_text, .int i_textSize, .int i_textSteps, v_other, .int i_otherSize, v_piece, .int i_pieceSize, .int (nI (ab + 1)), .int (nI en), .int (nI (byv S a % 128))])), (hrow, .inl (cW, 16384, .inl (fr)))] := hD
    refine lv_iload_n hx hb d_O_number_67 rfl (lv_at hl 0 rfl) ?_
    refine lv_sipush (v := 128) hx hb d_O_number_68 (by decide +kernel) ?_
    refine lv_icmp_ge (tgt := 76) hx hb d_O_number_71 (by decide) (fun c_11 => ?_) (fun c_11 => ?_)
    · have hV_13 : ¬ byv S a < 128 := (fun z => absurd (nI_lt z (by decide)) (Int32.not_lt.mpr c_11))
      refine lv_iinc (v := 1) (lv' := [(1, .int 1), (2, .int (nI (byv S a))), (0, .ref h0)]) hx hb d_O_number_76 hl (k := 1) rfl (by decide +kernel) (by decide) rfl (fun ls hl => ?_)
      refine lv_goto (tgt := 7) hx hb d_O_number_79 (by decide) ?_
      refine lv_iload_n hx hb d_O_number_7 rfl (lv_at hl 0 rfl) ?_
      refine lv_iconst (v := 3) hx hb d_O_number_8 (by decide) ?_
      refine lv_icmp_ge (tgt := 82) hx hb d_O_number_9 (by decide) (fun h9 => absurd h9 (by decide +kernel)) (fun _ => ?_)
      refine lv_aload_n hx hb d_O_number_12 rfl (lv_at hl 2 rfl) ?_
      refine va_get (D := (dC, dI)) (ci := 7) (v := .int (nI (ab + 1))) (C := R_O) (T := F_O) (N := 27) hx hb hw0 in_O hown hK hP 0 rfl rfl 24 (by decide) (hw0 (.fieldLink R_O 103 "TextKeeperModel" "at" "I") wm_262) (fun _ h9 => h9) rfl d_O_number_13 ?_
      refine lv_aload_n hx hb d_O_number_16 rfl (lv_at hl 2 rfl) ?_
      refine va_get (D := (dC, dI)) (ci := 7) (v := .int (nI en)) (C := R_O) (T := F_O) (N := 27) hx hb hw0 in_O hown hK hP 0 rfl rfl 25 (by decide) (hw0 (.fieldLink R_O 106 "TextKeeperModel" "end" "I") wm_263) (fun _ h9 => h9) rfl d_O_number_17 ?_
      refine lv_icmp_ne (tgt := 25) hx hb d_O_number_20 (by decide) (fun c_14 => ?_) (fun c_14 => ?_)
      · have hA_16 : a + 1 < S.length := (by rcases Nat.lt_or_ge (a + 1) S.length with z | z; exact z; exact absurd (show nI (ab + 1) = nI en from congrArg nI (by omega)) c_14)
        refine lv_aload_n hx hb d_O_number_25 rfl (lv_at hl 2 rfl) ?_
        refine va_get (D := (dC, dI)) (ci := 7) (v := .ref hrow) (C := R_O) (T := F_O) (N := 27) hx hb hw0 in_O hown hK hP 0 rfl rfl 12 (by decide) (hw0 (.fieldLink R_O 38 "TextKeeperModel" "row" "[B") wm_264) (fun _ h9 => h9) rfl d_O_number_26 ?_
        refine lv_aload_n hx hb d_O_number_29 rfl (lv_at hl 2 rfl) ?_
        refine va_get (D := (dC, dI)) (ci := 7) (v := .int (nI (ab + 1))) (C := R_O) (T := F_O) (N := 27) hx hb hw0 in_O hown hK hP 0 rfl rfl 24 (by decide) (hw0 (.fieldLink R_O 103 "TextKeeperModel" "at" "I") wm_262) (fun _ h9 => h9) rfl d_O_number_30 ?_
        refine va_bald hx hb hK hP 1 0 rfl rfl (vp_in_nI (by omega) (by decide)) d_O_number_33 ?_
        refine lv_topi (fun x_17 ex_17 => ?_)
        refine lv_sipush (v := 255) hx hb d_O_number_34 (by decide +kernel) ?_
        refine lv_iand hx hb d_O_number_37 ?_
        refine lv_topi (fun x_18 ex_18 => ?_)
        obtain rfl : x_18 = (nI (byv S (a + 1))) := by rw [ex_18, ex_17]; exact ld_sx hsx (by omega) (by omega)
        clear ex_18
        refine lv_istore_n (lv' := [(2, .int (nI (byv S (a + 1)))), (1, .int 1), (0, .ref h0)]) hx hb d_O_number_38 rfl hl (by decide) rfl (fun ls hl => ?_)
        refine lv_aload_n hx hb d_O_number_39 rfl (lv_at hl 2 rfl) ?_
        refine lv_dup hx hb d_O_number_40 rfl ?_
        refine va_get (D := (dC, dI)) (ci := 7) (v := .int (nI (ab + 1))) (C := R_O) (T := F_O) (N := 27) hx hb hw0 in_O hown hK hP 0 rfl rfl 24 (by decide) (hw0 (.fieldLink R_O 103 "TextKeeperModel" "at" "I") wm_262) (fun _ h9 => h9) rfl d_O_number_41 ?_
        refine lv_iconst (v := 1) hx hb d_O_number_44 (by decide) ?_
        refine lv_iadd hx hb d_O_number_45 ?_
        refine lv_topi (fun x_19 ex_19 => ?_)
        obtain rfl : x_19 = (nI (ab + 1 + 1)) := by rw [ex_19]; exact nI_1 (ab + 1)
        clear ex_19
        refine va_put (D := (dC, dI)) (ci := 7) (v := .int (nI (ab + 1 + 1))) (ty := .int) (C := R_O) (T := F_O) (N := 27) hx hb hw0 in_O ft_O tk_O nk_O hown hK hP hD hS 0 rfl rfl 24 (by decide) (hw0 (.fieldLink R_O 103 "TextKeeperModel" "at" "I") wm_262) (fun _ h9 => h9) rfl (by decide +kernel) rfl rfl (Nat.le_of_ble_eq_true rfl) d_O_number_46 (fun H locs hP hD hS => ?_)
        replace hP : va_P (dC, dI) vwCl [(h0, .inr (7, [.int i_thrown, .int i_down, .int i_lasts, v_buffer, .int i_size, .int i_documents, v_gone, v_first, v_many, v_lengths, v_authors, v_sums, .ref hrow, v_made, .int i_madeSize, v_base, .int i_baseSize, v_text, .int i_textSize, .int i_textSteps, v_other, .int i_otherSize, v_piece, .int i_pieceSize, .int (nI (ab + 1 + 1)), .int (nI en), .int (nI (byv S a % 128))])), (hrow, .inl (cW, 16384, .inl (fr)))] H := hP
        replace hD : va_D A [(h0, .inr (7, [.int i_thrown, .int i_down, .int i_lasts, v_buffer, .int i_size, .int i_documents, v_gone, v_first, v_many, v_lengths, v_authors, v_sums, .ref hrow, v_made, .int i_madeSize, v_base, .int i_baseSize, v_text, .int i_textSize, .int i_textSteps, v_other, .int i_otherSize, v_piece, .int i_pieceSize, .int (nI (ab + 1 + 1)), .int (nI en), .int (nI (byv S a % 128))])), (hrow, .inl (cW, 16384, .inl (fr)))] := hD
        refine lv_aload_n hx hb d_O_number_49 rfl (lv_at hl 2 rfl) ?_
        refine lv_dup hx hb d_O_number_50 rfl ?_
        refine va_get (D := (dC, dI)) (ci := 7) (v := .int (nI (byv S a % 128))) (C := R_O) (T := F_O) (N := 27) hx hb hw0 in_O hown hK hP 0 rfl rfl 26 (by decide) (hw0 (.fieldLink R_O 100 "TextKeeperModel" "value" "I") wm_261) (fun _ h9 => h9) rfl d_O_number_51 ?_
        refine lv_iload_n hx hb d_O_number_54 rfl (lv_at hl 0 rfl) ?_
        refine lv_bipush (v := 127) hx hb d_O_number_55 (by decide +kernel) ?_
        refine lv_iand hx hb d_O_number_57 ?_
        refine lv_topi (fun x_20 ex_20 => ?_)
        obtain rfl : x_20 = (nI (byv S (a + 1) % 128)) := by rw [ex_20]; exact an_127 _ (byv_lt _ _)
        clear ex_20
        refine lv_bipush (v := 7) hx hb d_O_number_58 (by decide +kernel) ?_
        refine lv_iload_n hx hb d_O_number_60 rfl (lv_at hl 1 rfl) ?_
        refine lv_imul hx hb d_O_number_61 ?_
        refine lv_topi (fun x_21 ex_21 => ?_)
        obtain rfl : x_21 = 7 := ex_21.trans (by decide +kernel)
        clear ex_21
        refine lv_ishl hx hb d_O_number_62 ?_
        refine lv_topi (fun x_22 ex_22 => ?_)
        obtain rfl : x_22 = (nI (byv S (a + 1) % 128 * 128)) := by rw [ex_22]; exact sh_7 _ (Nat.mod_lt _ (by decide))
        clear ex_22
        refine lv_iadd hx hb d_O_number_63 ?_
        refine lv_topi (fun x_23 ex_23 => ?_)
        obtain rfl : x_23 = (nI (byv S a % 128 + byv S (a + 1) % 128 * 128)) := by rw [ex_23]; exact nI_add (byv S a % 128) (byv S (a + 1) % 128 * 128)
        clear ex_23
        refine va_put (D := (dC, dI)) (ci := 7) (v := .int (nI (byv S a % 128 + byv S (a + 1) % 128 * 128))) (ty := .int) (C := R_O) (T := F_O) (N := 27) hx hb hw0 in_O ft_O tk_O nk_O hown hK hP hD hS 0 rfl rfl 26 (by decide) (hw0 (.fieldLink R_O 100 "TextKeeperModel" "value" "I") wm_261) (fun _ h9 => h9) rfl (by decide +kernel) rfl rfl (Nat.le_of_ble_eq_true rfl) d_O_number_64 (fun H locs hP hD hS => ?_)
        replace hP : va_P (dC, dI) vwCl [(h0, .inr (7, [.int i_thrown, .int i_down, .int i_lasts, v_buffer, .int i_size, .int i_documents, v_gone, v_first, v_many, v_lengths, v_authors, v_sums, .ref hrow, v_made, .int i_madeSize, v_base, .int i_baseSize, v_text, .int i_textSize, .int i_textSteps, v_other, .int i_otherSize, v_piece, .int i_pieceSize, .int (nI (ab + 1 + 1)), .int (nI en), .int (nI (byv S a % 128 + byv S (a + 1) % 128 * 128))])), (hrow, .inl (cW, 16384, .inl (fr)))] H := hP
        replace hD : va_D A [(h0, .inr (7, [.int i_thrown, .int i_down, .int i_lasts, v_buffer, .int i_size, .int i_documents, v_gone, v_first, v_many, v_lengths, v_authors, v_sums, .ref hrow, v_made, .int i_madeSize, v_base, .int i_baseSize, v_text, .int i_textSize, .int i_textSteps, v_other, .int i_otherSize, v_piece, .int i_pieceSize, .int (nI (ab + 1 + 1)), .int (nI en), .int (nI (byv S a % 128 + byv S (a + 1) % 128 * 128))])), (hrow, .inl (cW, 16384, .inl (fr)))] := hD
        refine lv_iload_n hx hb d_O_number_67 rfl (lv_at hl 0 rfl) ?_
        refine lv_sipush (v := 128) hx hb d_O_number_68 (by decide +kernel) ?_
        refine lv_icmp_ge (tgt := 76) hx hb d_O_number_71 (by decide) (fun c_24 => ?_) (fun c_24 => ?_)
        · have hV_26 : ¬ byv S (a + 1) < 128 := (fun z => absurd (nI_lt z (by decide)) (Int32.not_lt.mpr c_24))
          refine lv_iinc (v := 2) (lv' := [(1, .int 2), (2, .int (nI (byv S (a + 1)))), (0, .ref h0)]) hx hb d_O_number_76 hl (k := 1) rfl (by decide +kernel) (by decide) rfl (fun ls hl => ?_)
          refine lv_goto (tgt := 7) hx hb d_O_number_79 (by decide) ?_
          refine lv_iload_n hx hb d_O_number_7 rfl (lv_at hl 0 rfl) ?_
          refine lv_iconst (v := 3) hx hb d_O_number_8 (by decide) ?_
          refine lv_icmp_ge (tgt := 82) hx hb d_O_number_9 (by decide) (fun h9 => absurd h9 (by decide +kernel)) (fun _ => ?_)
          refine lv_aload_n hx hb d_O_number_12 rfl (lv_at hl 2 rfl) ?_
          refine va_get (D := (dC, dI)) (ci := 7) (v := .int (nI (ab + 1 + 1))) (C := R_O) (T := F_O) (N := 27) hx hb hw0 in_O hown hK hP 0 rfl rfl 24 (by decide) (hw0 (.fieldLink R_O 103 "TextKeeperModel" "at" "I") wm_262) (fun _ h9 => h9) rfl d_O_number_13 ?_
          refine lv_aload_n hx hb d_O_number_16 rfl (lv_at hl 2 rfl) ?_
          refine va_get (D := (dC, dI)) (ci := 7) (v := .int (nI en)) (C := R_O) (T := F_O) (N := 27) hx hb hw0 in_O hown hK hP 0 rfl rfl 25 (by decide) (hw0 (.fieldLink R_O 106 "TextKeeperModel" "end" "I") wm_263) (fun _ h9 => h9) rfl d_O_number_17 ?_
          refine lv_icmp_ne (tgt := 25) hx hb d_O_number_20 (by decide) (fun c_27 => ?_) (fun c_27 => ?_)
          · have hA_29 : a + 1 + 1 < S.length := (by rcases Nat.lt_or_ge (a + 1 + 1) S.length with z | z; exact z; exact absurd (show nI (ab + 1 + 1) = nI en from congrArg nI (by omega)) c_27)
            refine lv_aload_n hx hb d_O_number_25 rfl (lv_at hl 2 rfl) ?_
            refine va_get (D := (dC, dI)) (ci := 7) (v := .ref hrow) (C := R_O) (T := F_O) (N := 27) hx hb hw0 in_O hown hK hP 0 rfl rfl 12 (by decide) (hw0 (.fieldLink R_O 38 "TextKeeperModel" "row" "[B") wm_264) (fun _ h9 => h9) rfl d_O_number_26 ?_
            refine lv_aload_n hx hb d_O_number_29 rfl (lv_at hl 2 rfl) ?_
            refine va_get (D := (dC, dI)) (ci := 7) (v := .int (nI (ab + 1 + 1))) (C := R_O) (T := F_O) (N := 27) hx hb hw0 in_O hown hK hP 0 rfl rfl 24 (by decide) (hw0 (.fieldLink R_O 103 "TextKeeperModel" "at" "I") wm_262) (fun _ h9 => h9) rfl d_O_number_30 ?_
            refine va_bald hx hb hK hP 1 0 rfl rfl (vp_in_nI (by omega) (by decide)) d_O_number_33 ?_
            refine lv_topi (fun x_30 ex_30 => ?_)
            refine lv_sipush (v := 255) hx hb d_O_number_34 (by decide +kernel) ?_
            refine lv_iand hx hb d_O_number_37 ?_
            refine lv_topi (fun x_31 ex_31 => ?_)
            obtain rfl : x_31 = (nI (byv S (a + 1 + 1))) := by rw [ex_31, ex_30]; exact ld_sx hsx (by omega) (by omega)
            clear ex_31
            refine lv_istore_n (lv' := [(2, .int (nI (byv S (a + 1 + 1)))), (1, .int 2), (0, .ref h0)]) hx hb d_O_number_38 rfl hl (by decide) rfl (fun ls hl => ?_)
            refine lv_aload_n hx hb d_O_number_39 rfl (lv_at hl 2 rfl) ?_
            refine lv_dup hx hb d_O_number_40 rfl ?_
            refine va_get (D := (dC, dI)) (ci := 7) (v := .int (nI (ab + 1 + 1))) (C := R_O) (T := F_O) (N := 27) hx hb hw0 in_O hown hK hP 0 rfl rfl 24 (by decide) (hw0 (.fieldLink R_O 103 "TextKeeperModel" "at" "I") wm_262) (fun _ h9 => h9) rfl d_O_number_41 ?_
            refine lv_iconst (v := 1) hx hb d_O_number_44 (by decide) ?_
            refine lv_iadd hx hb d_O_number_45 ?_
            refine lv_topi (fun x_32 ex_32 => ?_)
            obtain rfl : x_32 = (nI (ab + 1 + 1 + 1)) := by rw [ex_32]; exact nI_1 (ab + 1 + 1)
            clear ex_32
            refine va_put (D := (dC, dI)) (ci := 7) (v := .int (nI (ab + 1 + 1 + 1))) (ty := .int) (C := R_O) (T := F_O) (N := 27) hx hb hw0 in_O ft_O tk_O nk_O hown hK hP hD hS 0 rfl rfl 24 (by decide) (hw0 (.fieldLink R_O 103 "TextKeeperModel" "at" "I") wm_262) (fun _ h9 => h9) rfl (by decide +kernel) rfl rfl (Nat.le_of_ble_eq_true rfl) d_O_number_46 (fun H locs hP hD hS => ?_)
            replace hP : va_P (dC, dI) vwCl [(h0, .inr (7, [.int i_thrown, .int i_down, .int i_lasts, v_buffer, .int i_size, .int i_documents, v_gone, v_first, v_many, v_lengths, v_authors, v_sums, .ref hrow, v_made, .int i_madeSize, v_base, .int i_baseSize, v_text, .int i_textSize, .int i_textSteps, v_other, .int i_otherSize, v_piece, .int i_pieceSize, .int (nI (ab + 1 + 1 + 1)), .int (nI en), .int (nI (byv S a % 128 + byv S (a + 1) % 128 * 128))])), (hrow, .inl (cW, 16384, .inl (fr)))] H := hP
            replace hD : va_D A [(h0, .inr (7, [.int i_thrown, .int i_down, .int i_lasts, v_buffer, .int i_size, .int i_documents, v_gone, v_first, v_many, v_lengths, v_authors, v_sums, .ref hrow, v_made, .int i_madeSize, v_base, .int i_baseSize, v_text, .int i_textSize, .int i_textSteps, v_other, .int i_otherSize, v_piece, .int i_pieceSize, .int (nI (ab + 1 + 1 + 1)), .int (nI en), .int (nI (byv S a % 128 + byv S (a + 1) % 128 * 128))])), (hrow, .inl (cW, 16384, .inl (fr)))] := hD
            refine lv_aload_n hx hb d_O_number_49 rfl (lv_at hl 2 rfl) ?_
            refine lv_dup hx hb d_O_number_50 rfl ?_
            refine va_get (D := (dC, dI)) (ci := 7) (v := .int (nI (byv S a % 128 + byv S (a + 1) % 128 * 128))) (C := R_O) (T := F_O) (N := 27) hx hb hw0 in_O hown hK hP 0 rfl rfl 26 (by decide) (hw0 (.fieldLink R_O 100 "TextKeeperModel" "value" "I") wm_261) (fun _ h9 => h9) rfl d_O_number_51 ?_
            refine lv_iload_n hx hb d_O_number_54 rfl (lv_at hl 0 rfl) ?_
            refine lv_bipush (v := 127) hx hb d_O_number_55 (by decide +kernel) ?_
            refine lv_iand hx hb d_O_number_57 ?_
            refine lv_topi (fun x_33 ex_33 => ?_)
            obtain rfl : x_33 = (nI (byv S (a + 1 + 1) % 128)) := by rw [ex_33]; exact an_127 _ (byv_lt _ _)
            clear ex_33
            refine lv_bipush (v := 7) hx hb d_O_number_58 (by decide +kernel) ?_
            refine lv_iload_n hx hb d_O_number_60 rfl (lv_at hl 1 rfl) ?_
            refine lv_imul hx hb d_O_number_61 ?_
            refine lv_topi (fun x_34 ex_34 => ?_)
            obtain rfl : x_34 = 14 := ex_34.trans (by decide +kernel)
            clear ex_34
            refine lv_ishl hx hb d_O_number_62 ?_
            refine lv_topi (fun x_35 ex_35 => ?_)
            obtain rfl : x_35 = (nI (byv S (a + 1 + 1) % 128 * 16384)) := by rw [ex_35]; exact sh_14 _ (Nat.mod_lt _ (by decide))
            clear ex_35
            refine lv_iadd hx hb d_O_number_63 ?_
            refine lv_topi (fun x_36 ex_36 => ?_)
            obtain rfl : x_36 = (nI (byv S a % 128 + byv S (a + 1) % 128 * 128 + byv S (a + 1 + 1) % 128 * 16384)) := by rw [ex_36]; exact nI_add (byv S a % 128 + byv S (a + 1) % 128 * 128) (byv S (a + 1 + 1) % 128 * 16384)
            clear ex_36
            refine va_put (D := (dC, dI)) (ci := 7) (v := .int (nI (byv S a % 128 + byv S (a + 1) % 128 * 128 + byv S (a + 1 + 1) % 128 * 16384))) (ty := .int) (C := R_O) (T := F_O) (N := 27) hx hb hw0 in_O ft_O tk_O nk_O hown hK hP hD hS 0 rfl rfl 26 (by decide) (hw0 (.fieldLink R_O 100 "TextKeeperModel" "value" "I") wm_261) (fun _ h9 => h9) rfl (by decide +kernel) rfl rfl (Nat.le_of_ble_eq_true rfl) d_O_number_64 (fun H locs hP hD hS => ?_)
            replace hP : va_P (dC, dI) vwCl [(h0, .inr (7, [.int i_thrown, .int i_down, .int i_lasts, v_buffer, .int i_size, .int i_documents, v_gone, v_first, v_many, v_lengths, v_authors, v_sums, .ref hrow, v_made, .int i_madeSize, v_base, .int i_baseSize, v_text, .int i_textSize, .int i_textSteps, v_other, .int i_otherSize, v_piece, .int i_pieceSize, .int (nI (ab + 1 + 1 + 1)), .int (nI en), .int (nI (byv S a % 128 + byv S (a + 1) % 128 * 128 + byv S (a + 1 + 1) % 128 * 16384))])), (hrow, .inl (cW, 16384, .inl (fr)))] H := hP
            replace hD : va_D A [(h0, .inr (7, [.int i_thrown, .int i_down, .int i_lasts, v_buffer, .int i_size, .int i_documents, v_gone, v_first, v_many, v_lengths, v_authors, v_sums, .ref hrow, v_made, .int i_madeSize, v_base, .int i_baseSize, v_text, .int i_textSize, .int i_textSteps, v_other, .int i_otherSize, v_piece, .int i_pieceSize, .int (nI (ab + 1 + 1 + 1)), .int (nI en), .int (nI (byv S a % 128 + byv S (a + 1) % 128 * 128 + byv S (a + 1 + 1) % 128 * 16384))])), (hrow, .inl (cW, 16384, .inl (fr)))] := hD
            refine lv_iload_n hx hb d_O_number_67 rfl (lv_at hl 0 rfl) ?_
            refine lv_sipush (v := 128) hx hb d_O_number_68 (by decide +kernel) ?_
            refine lv_icmp_ge (tgt := 76) hx hb d_O_number_71 (by decide) (fun c_37 => ?_) (fun c_37 => ?_)
            · have hV_39 : ¬ byv S (a + 1 + 1) < 128 := (fun z => absurd (nI_lt z (by decide)) (Int32.not_lt.mpr c_37))
              refine lv_iinc (v := 3) (lv' := [(1, .int 3), (2, .int (nI (byv S (a + 1 + 1)))), (0, .ref h0)]) hx hb d_O_number_76 hl (k := 1) rfl (by decide +kernel) (by decide) rfl (fun ls hl => ?_)
              refine lv_goto (tgt := 7) hx hb d_O_number_79 (by decide) ?_
              refine lv_iload_n hx hb d_O_number_7 rfl (lv_at hl 0 rfl) ?_
              refine lv_iconst (v := 3) hx hb d_O_number_8 (by decide) ?_
              refine lv_icmp_ge (tgt := 82) hx hb d_O_number_9 (by decide) (fun _ => ?_) (fun h9 => absurd h9 (by decide +kernel))
              refine lv_iconst (v := 0) hx hb d_O_number_82 (by decide) ?_
              have hP9 := hP.sub (ws' := [(h0, .inr (7, [.int i_thrown, .int i_down, .int i_lasts, v_buffer, .int i_size, .int i_documents, v_gone, v_first, v_many, v_lengths, v_authors, v_sums, .ref hrow, v_made, .int i_madeSize, v_base, .int i_baseSize, v_text, .int i_textSize, .int i_textSteps, v_other, .int i_otherSize, v_piece, .int i_pieceSize, .int (nI (ab + 1 + 1 + 1)), .int (nI en), .int (nI (byv S a % 128 + byv S (a + 1) % 128 * 128 + byv S (a + 1 + 1) % 128 * 16384))])), (hrow, .inl (cW, 16384, .inl (fr)))]) [0, 1] rfl
              have hD9 := hD.sub (ws' := [(h0, .inr (7, [.int i_thrown, .int i_down, .int i_lasts, v_buffer, .int i_size, .int i_documents, v_gone, v_first, v_many, v_lengths, v_authors, v_sums, .ref hrow, v_made, .int i_madeSize, v_base, .int i_baseSize, v_text, .int i_textSize, .int i_textSteps, v_other, .int i_otherSize, v_piece, .int i_pieceSize, .int (nI (ab + 1 + 1 + 1)), .int (nI en), .int (nI (byv S a % 128 + byv S (a + 1) % 128 * 128 + byv S (a + 1 + 1) % 128 * 16384))])), (hrow, .inl (cW, 16384, .inl (fr)))]) [0, 1] (by decide) rfl
              have hK9 := hK.sub (tys' := [(cW, .byte)]) [0] rfl
              exact W.zret (v := 0) (ty := .boolean) hx hb hr rfl (fun t ht hW => ⟨⟨0, (), rfl, (by rw [rd, if_neg (by omega), if_neg (by omega), if_neg (by omega), if_neg (by omega), if_neg (by omega), if_neg (by omega)]; rfl), (ab + 1 + 1 + 1), (nI (byv S a % 128 + byv S (a + 1) % 128 * 128 + byv S (a + 1 + 1) % 128 * 16384)), (by rw [rd, if_neg (by omega), if_neg (by omega), if_neg (by omega), if_neg (by omega), if_neg (by omega), if_neg (by omega)]; exact ⟨(by simp only; omega), fun v h => by cases h <;> rfl⟩), by rw [ht]; exact hP9, va_K.moved hW.alike hK9, hD9⟩, hS.F ht⟩) hS.2.2 d_O_number_83
            · have hV_38 : byv S (a + 1 + 1) < 128 := (by rcases Nat.lt_or_ge (byv S (a + 1 + 1)) 128 with z | z; exact z; exact absurd (show nI 128 ≤ nI (byv S (a + 1 + 1)) from nI_le z (Nat.lt_trans (byv_lt _ _) (by decide))) c_37)
              refine lv_iconst (v := 1) hx hb d_O_number_74 (by decide) ?_
              have hP9 := hP.sub (ws' := [(h0, .inr (7, [.int i_thrown, .int i_down, .int i_lasts, v_buffer, .int i_size, .int i_documents, v_gone, v_first, v_many, v_lengths, v_authors, v_sums, .ref hrow, v_made, .int i_madeSize, v_base, .int i_baseSize, v_text, .int i_textSize, .int i_textSteps, v_other, .int i_otherSize, v_piece, .int i_pieceSize, .int (nI (ab + 1 + 1 + 1)), .int (nI en), .int (nI (byv S a % 128 + byv S (a + 1) % 128 * 128 + byv S (a + 1 + 1) % 128 * 16384))])), (hrow, .inl (cW, 16384, .inl (fr)))]) [0, 1] rfl
              have hD9 := hD.sub (ws' := [(h0, .inr (7, [.int i_thrown, .int i_down, .int i_lasts, v_buffer, .int i_size, .int i_documents, v_gone, v_first, v_many, v_lengths, v_authors, v_sums, .ref hrow, v_made, .int i_madeSize, v_base, .int i_baseSize, v_text, .int i_textSize, .int i_textSteps, v_other, .int i_otherSize, v_piece, .int i_pieceSize, .int (nI (ab + 1 + 1 + 1)), .int (nI en), .int (nI (byv S a % 128 + byv S (a + 1) % 128 * 128 + byv S (a + 1 + 1) % 128 * 16384))])), (hrow, .inl (cW, 16384, .inl (fr)))]) [0, 1] (by decide) rfl
              have hK9 := hK.sub (tys' := [(cW, .byte)]) [0] rfl
              exact W.zret (v := 1) (ty := .boolean) hx hb hr rfl (fun t ht hW => ⟨⟨1, (), rfl, (by rw [rd, if_neg (by omega), if_neg (by omega), if_neg (by omega), if_neg (by omega), if_neg (by omega), if_pos (by omega)]; rfl), (ab + 1 + 1 + 1), (nI (byv S a % 128 + byv S (a + 1) % 128 * 128 + byv S (a + 1 + 1) % 128 * 16384)), (by rw [rd, if_neg (by omega), if_neg (by omega), if_neg (by omega), if_neg (by omega), if_neg (by omega), if_pos (by omega)]; exact ⟨(by simp only; omega), fun v h => by cases h <;> rfl⟩), by rw [ht]; exact hP9, va_K.moved hW.alike hK9, hD9⟩, hS.F ht⟩) hS.2.2 d_O_number_75
          · have hA_28 : ¬ a + 1 + 1 < S.length := (by have h8 := (nI_eq (by omega) (by omega)).mp c_27; omega)
            refine lv_iconst (v := 0) hx hb d_O_number_23 (by decide) ?_
            have hP9 := hP.sub (ws' := [(h0, .inr (7, [.int i_thrown, .int i_down, .int i_lasts, v_buffer, .int i_size, .int i_documents, v_gone, v_first, v_many, v_lengths, v_authors, v_sums, .ref hrow, v_made, .int i_madeSize, v_base, .int i_baseSize, v_text, .int i_textSize, .int i_textSteps, v_other, .int i_otherSize, v_piece, .int i_pieceSize, .int (nI (ab + 1 + 1)), .int (nI en), .int (nI (byv S a % 128 + byv S (a + 1) % 128 * 128))])), (hrow, .inl (cW, 16384, .inl (fr)))]) [0, 1] rfl
            have hD9 := hD.sub (ws' := [(h0, .inr (7, [.int i_thrown, .int i_down, .int i_lasts, v_buffer, .int i_size, .int i_documents, v_gone, v_first, v_many, v_lengths, v_authors, v_sums, .ref hrow, v_made, .int i_madeSize, v_base, .int i_baseSize, v_text, .int i_textSize, .int i_textSteps, v_other, .int i_otherSize, v_piece, .int i_pieceSize, .int (nI (ab + 1 + 1)), .int (nI en), .int (nI (byv S a % 128 + byv S (a + 1) % 128 * 128))])), (hrow, .inl (cW, 16384, .inl (fr)))]) [0, 1] (by decide) rfl
            have hK9 := hK.sub (tys' := [(cW, .byte)]) [0] rfl
            exact W.zret (v := 0) (ty := .boolean) hx hb hr rfl (fun t ht hW => ⟨⟨0, (), rfl, (by rw [rd, if_neg (by omega), if_neg (by omega), if_neg (by omega), if_neg (by omega), if_pos (by omega)]; rfl), (ab + 1 + 1), (nI (byv S a % 128 + byv S (a + 1) % 128 * 128)), (by rw [rd, if_neg (by omega), if_neg (by omega), if_neg (by omega), if_neg (by omega), if_pos (by omega)]; exact ⟨(by simp only; omega), fun v h => by cases h <;> rfl⟩), by rw [ht]; exact hP9, va_K.moved hW.alike hK9, hD9⟩, hS.F ht⟩) hS.2.2 d_O_number_24
        · have hV_25 : byv S (a + 1) < 128 := (by rcases Nat.lt_or_ge (byv S (a + 1)) 128 with z | z; exact z; exact absurd (show nI 128 ≤ nI (byv S (a + 1)) from nI_le z (Nat.lt_trans (byv_lt _ _) (by decide))) c_24)
          refine lv_iconst (v := 1) hx hb d_O_number_74 (by decide) ?_
          have hP9 := hP.sub (ws' := [(h0, .inr (7, [.int i_thrown, .int i_down, .int i_lasts, v_buffer, .int i_size, .int i_documents, v_gone, v_first, v_many, v_lengths, v_authors, v_sums, .ref hrow, v_made, .int i_madeSize, v_base, .int i_baseSize, v_text, .int i_textSize, .int i_textSteps, v_other, .int i_otherSize, v_piece, .int i_pieceSize, .int (nI (ab + 1 + 1)), .int (nI en), .int (nI (byv S a % 128 + byv S (a + 1) % 128 * 128))])), (hrow, .inl (cW, 16384, .inl (fr)))]) [0, 1] rfl
          have hD9 := hD.sub (ws' := [(h0, .inr (7, [.int i_thrown, .int i_down, .int i_lasts, v_buffer, .int i_size, .int i_documents, v_gone, v_first, v_many, v_lengths, v_authors, v_sums, .ref hrow, v_made, .int i_madeSize, v_base, .int i_baseSize, v_text, .int i_textSize, .int i_textSteps, v_other, .int i_otherSize, v_piece, .int i_pieceSize, .int (nI (ab + 1 + 1)), .int (nI en), .int (nI (byv S a % 128 + byv S (a + 1) % 128 * 128))])), (hrow, .inl (cW, 16384, .inl (fr)))]) [0, 1] (by decide) rfl
          have hK9 := hK.sub (tys' := [(cW, .byte)]) [0] rfl
          exact W.zret (v := 1) (ty := .boolean) hx hb hr rfl (fun t ht hW => ⟨⟨1, (), rfl, (by rw [rd, if_neg (by omega), if_neg (by omega), if_neg (by omega), if_pos (by omega)]; rfl), (ab + 1 + 1), (nI (byv S a % 128 + byv S (a + 1) % 128 * 128)), (by rw [rd, if_neg (by omega), if_neg (by omega), if_neg (by omega), if_pos (by omega)]; exact ⟨(by simp only; omega), fun v h => by cases h <;> rfl⟩), by rw [ht]; exact hP9, va_K.moved hW.alike hK9, hD9⟩, hS.F ht⟩) hS.2.2 d_O_number_75
      · have hA_15 : ¬ a + 1 < S.length := (by have h8 := (nI_eq (by omega) (by omega)).mp c_14; omega)
        refine lv_iconst (v := 0) hx hb d_O_number_23 (by decide) ?_
        have hP9 := hP.sub (ws' := [(h0, .inr (7, [.int i_thrown, .int i_down, .int i_lasts, v_buffer, .int i_size, .int i_documents, v_gone, v_first, v_many, v_lengths, v_authors, v_sums, .ref hrow, v_made, .int i_madeSize, v_base, .int i_baseSize, v_text, .int i_textSize, .int i_textSteps, v_other, .int i_otherSize, v_piece, .int i_pieceSize, .int (nI (ab + 1)), .int (nI en), .int (nI (byv S a % 128))])), (hrow, .inl (cW, 16384, .inl (fr)))]) [0, 1] rfl
        have hD9 := hD.sub (ws' := [(h0, .inr (7, [.int i_thrown, .int i_down, .int i_lasts, v_buffer, .int i_size, .int i_documents, v_gone, v_first, v_many, v_lengths, v_authors, v_sums, .ref hrow, v_made, .int i_madeSize, v_base, .int i_baseSize, v_text, .int i_textSize, .int i_textSteps, v_other, .int i_otherSize, v_piece, .int i_pieceSize, .int (nI (ab + 1)), .int (nI en), .int (nI (byv S a % 128))])), (hrow, .inl (cW, 16384, .inl (fr)))]) [0, 1] (by decide) rfl
        have hK9 := hK.sub (tys' := [(cW, .byte)]) [0] rfl
        exact W.zret (v := 0) (ty := .boolean) hx hb hr rfl (fun t ht hW => ⟨⟨0, (), rfl, (by rw [rd, if_neg (by omega), if_neg (by omega), if_pos (by omega)]; rfl), (ab + 1), (nI (byv S a % 128)), (by rw [rd, if_neg (by omega), if_neg (by omega), if_pos (by omega)]; exact ⟨(by simp only; omega), fun v h => by cases h <;> rfl⟩), by rw [ht]; exact hP9, va_K.moved hW.alike hK9, hD9⟩, hS.F ht⟩) hS.2.2 d_O_number_24
    · have hV_12 : byv S a < 128 := (by rcases Nat.lt_or_ge (byv S a) 128 with z | z; exact z; exact absurd (show nI 128 ≤ nI (byv S a) from nI_le z (Nat.lt_trans (byv_lt _ _) (by decide))) c_11)
      refine lv_iconst (v := 1) hx hb d_O_number_74 (by decide) ?_
      have hP9 := hP.sub (ws' := [(h0, .inr (7, [.int i_thrown, .int i_down, .int i_lasts, v_buffer, .int i_size, .int i_documents, v_gone, v_first, v_many, v_lengths, v_authors, v_sums, .ref hrow, v_made, .int i_madeSize, v_base, .int i_baseSize, v_text, .int i_textSize, .int i_textSteps, v_other, .int i_otherSize, v_piece, .int i_pieceSize, .int (nI (ab + 1)), .int (nI en), .int (nI (byv S a % 128))])), (hrow, .inl (cW, 16384, .inl (fr)))]) [0, 1] rfl
      have hD9 := hD.sub (ws' := [(h0, .inr (7, [.int i_thrown, .int i_down, .int i_lasts, v_buffer, .int i_size, .int i_documents, v_gone, v_first, v_many, v_lengths, v_authors, v_sums, .ref hrow, v_made, .int i_madeSize, v_base, .int i_baseSize, v_text, .int i_textSize, .int i_textSteps, v_other, .int i_otherSize, v_piece, .int i_pieceSize, .int (nI (ab + 1)), .int (nI en), .int (nI (byv S a % 128))])), (hrow, .inl (cW, 16384, .inl (fr)))]) [0, 1] (by decide) rfl
      have hK9 := hK.sub (tys' := [(cW, .byte)]) [0] rfl
      exact W.zret (v := 1) (ty := .boolean) hx hb hr rfl (fun t ht hW => ⟨⟨1, (), rfl, (by rw [rd, if_neg (by omega), if_pos (by omega)]; rfl), (ab + 1), (nI (byv S a % 128)), (by rw [rd, if_neg (by omega), if_pos (by omega)]; exact ⟨(by simp only; omega), fun v h => by cases h <;> rfl⟩), by rw [ht]; exact hP9, va_K.moved hW.alike hK9, hD9⟩, hS.F ht⟩) hS.2.2 d_O_number_75
  · have hA_2 : ¬ a < S.length := (by have h8 := (nI_eq (by omega) (by omega)).mp c_1; omega)
    refine lv_iconst (v := 0) hx hb d_O_number_23 (by decide) ?_
    have hP9 := hP.sub (ws' := [(h0, .inr (7, [.int i_thrown, .int i_down, .int i_lasts, v_buffer, .int i_size, .int i_documents, v_gone, v_first, v_many, v_lengths, v_authors, v_sums, .ref hrow, v_made, .int i_madeSize, v_base, .int i_baseSize, v_text, .int i_textSize, .int i_textSteps, v_other, .int i_otherSize, v_piece, .int i_pieceSize, .int (nI (ab)), .int (nI en), .int 0])), (hrow, .inl (cW, 16384, .inl (fr)))]) [0, 1] rfl
    have hD9 := hD.sub (ws' := [(h0, .inr (7, [.int i_thrown, .int i_down, .int i_lasts, v_buffer, .int i_size, .int i_documents, v_gone, v_first, v_many, v_lengths, v_authors, v_sums, .ref hrow, v_made, .int i_madeSize, v_base, .int i_baseSize, v_text, .int i_textSize, .int i_textSteps, v_other, .int i_otherSize, v_piece, .int i_pieceSize, .int (nI (ab)), .int (nI en), .int 0])), (hrow, .inl (cW, 16384, .inl (fr)))]) [0, 1] (by decide) rfl
    have hK9 := hK.sub (tys' := [(cW, .byte)]) [0] rfl
    exact W.zret (v := 0) (ty := .boolean) hx hb hr rfl (fun t ht hW => ⟨⟨0, (), rfl, (by rw [rd, if_pos (by omega)]; rfl), (ab), 0, (by rw [rd, if_pos (by omega)]; exact ⟨(by simp only; omega), fun v h => by cases h <;> rfl⟩), by rw [ht]; exact hP9, va_K.moved hW.alike hK9, hD9⟩, hS.F ht⟩) hS.2.2 d_O_number_24
set_option maxHeartbeats 4000000 in
set_option maxRecDepth 100000 in
theorem lq_mki {p : Program} {l : Launch} {e : Env} {s : State} {m : MethodId} {args : Array Value} {below : List Frame} {meth : Method} {c : Code} {dC : Nat → ClassId} {dI : Nat → Nat → Nat} {A : Nat → Prop} {Q : State → Prop} (h0 : Nat) (hba : Nat) (hta : Nat) (hpi : Nat) (hty : Nat) (cT : ClassId) (k : Nat) (T : List Int32) (hby : Nat) (cB : ClassId) (kb : Nat) (fb : Nat → Int32) (Bs : List Int32) (cP : ClassId) (np : Nat) (fp : Nat → Int32) (S : List Int32) (a : Nat) (cn : Nat) (htb : tx Bs kb fb) (hs9 : tx S np fp) (hk : k ≤ 256) (hkb : kb ≤ 256) (hn : np ≤ 16384) (hc : k + cn ≤ 256) (hac : a + cn ≤ np)
    (hx : p.tables.exec = Jvm.exec) (hb : c.code = prog_3_method_6_code) (hml : c.maxLocals = 3) (hown : s.vm.findClass R_M = some m.cls) (hw0 : ∀ w ∈ w0, w.before args s = true) (hN : nw_ok s) (hK : va_K (dC, dI) vwCl [(cT, .byte), (cB, .byte), (cP, .byte)] s) (hA : ∀ q : Nat, s.heap.size ≤ q → A q)
    (kk : ∀ (f : Nat → Int32), (tx (T ++ (S.drop a).take cn) (k + cn) f) → ∀ (H : Heap) (locs : List Loc), va_P (dC, dI) vwCl [(h0, .inr (2, [.ref hba, .ref hta, .ref hpi, .int (nI a)])), (hta, .inr (1, [.ref hty, .int (nI (k + cn))])), (hty, .inl (cT, 256, .inl (f))), (hba, .inr (1, [.ref hby, .int (nI kb)])), (hby, .inl (cB, 256, .inl (fb))), (hpi, .inl (cP, np, .inl (fp)))] H → va_D A [(h0, .inr (2, [.ref hba, .ref hta, .ref hpi, .int (nI a)])), (hta, .inr (1, [.ref hty, .int (nI (k + cn))])), (hty, .inl (cT, 256, .inl (f))), (hba, .inr (1, [.ref hby, .int (nI kb)])), (hby, .inl (cB, 256, .inl (fb))), (hpi, .inl (cP, np, .inl (fp)))] → va_S A s.heap H locs → ∀ ls : Array Slot, lv_has ls 3 [(2, .int (nI cn)), (0, .ref h0), (1, .int (nI cn))] → W p l e ({ frames := 1, cells := 0, slots := 0, locals := 21 } : Room) s m args below meth c H locs 0 0 Q (F0 m 47 ls [])) :
    ∀ (n j : Nat), j ≤ cn → cn < j + n → ∀ (f : Nat → Int32), (tx (T ++ (S.drop a).take j) (k + j) f) → ∀ (H : Heap) (locs : List Loc), va_P (dC, dI) vwCl [(h0, .inr (2, [.ref hba, .ref hta, .ref hpi, .int (nI a)])), (hta, .inr (1, [.ref hty, .int (nI (k + j))])), (hty, .inl (cT, 256, .inl (f))), (hba, .inr (1, [.ref hby, .int (nI kb)])), (hby, .inl (cB, 256, .inl (fb))), (hpi, .inl (cP, np, .inl (fp)))] H → va_D A [(h0, .inr (2, [.ref hba, .ref hta, .ref hpi, .int (nI a)])), (hta, .inr (1, [.ref hty, .int (nI (k + j))])), (hty, .inl (cT, 256, .inl (f))), (hba, .inr (1, [.ref hby, .int (nI kb)])), (hby, .inl (cB, 256, .inl (fb))), (hpi, .inl (cP, np, .inl (fp)))] → va_S A s.heap H locs → ∀ ls : Array Slot, lv_has ls 3 [(2, .int (nI j)), (0, .ref h0), (1, .int (nI cn))] → W p l e ({ frames := 1, cells := 0, slots := 0, locals := 21 } : Room) s m args below meth c H locs 0 0 Q (F0 m 18 ls []) := by
  intro n
  induction n with
  | zero => intro j h1 h2; exact absurd h2 (by omega)
  | succ n ih =>
    intro j hj hn f hf0 H locs hP hD hS ls hl
    refine lv_iload_n hx hb d_M_insert_18 rfl (lv_at hl 0 rfl) ?_
    refine lv_iload_n hx hb d_M_insert_19 rfl (lv_at hl 2 rfl) ?_
    refine lv_icmp_ge (tgt := 47) hx hb d_M_insert_20 (by decide) (fun c_1 => ?_) (fun c_1 => ?_)
    · obtain rfl : j = cn := x_geN (by omega) hj c_1
      exact kk f hf0 _ _ hP hD hS ls (lv_sub hl [0, 1, 2] rfl)
    · have hlt : j < cn := x_ltN (by omega) hj c_1
      refine lv_aload_n hx hb d_M_insert_23 rfl (lv_at hl 1 rfl) ?_
      refine va_get (D := (dC, dI)) (ci := 2) (v := .ref hta) (C := R_M) (T := F_M) (N := 4) hx hb hw0 in_M hown hK hP 0 rfl rfl 1 (by decide) (hw0 (.fieldLink R_M 18 "TextKeeper$Maker" "text" "LTextKeeper$Text;") wm_156) (fun _ h9 => h9) rfl d_M_insert_24 ?_
      refine lv_aload_n hx hb d_M_insert_27 rfl (lv_at hl 1 rfl) ?_
      refine va_get (D := (dC, dI)) (ci := 2) (v := .ref hpi) (C := R_M) (T := F_M) (N := 4) hx hb hw0 in_M hown hK hP 0 rfl rfl 2 (by decide) (hw0 (.fieldLink R_M 21 "TextKeeper$Maker" "piece" "[B") wm_157) (fun _ h9 => h9) rfl d_M_insert_28 ?_
      refine lv_aload_n hx hb d_M_insert_31 rfl (lv_at hl 1 rfl) ?_
      refine va_get (D := (dC, dI)) (ci := 2) (v := .int (nI a)) (C := R_M) (T := F_M) (N := 4) hx hb hw0 in_M hown hK hP 0 rfl rfl 3 (by decide) (hw0 (.fieldLink R_M 25 "TextKeeper$Maker" "at" "I") wm_158) (fun _ h9 => h9) rfl d_M_insert_32 ?_
      refine lv_iload_n hx hb d_M_insert_35 rfl (lv_at hl 0 rfl) ?_
      refine lv_iadd hx hb d_M_insert_36 ?_
      refine lv_topi (fun x_2 ex_2 => ?_)
      obtain rfl : x_2 = (nI (a + j)) := by rw [ex_2]; exact nI_add a j
      clear ex_2
      refine va_bald hx hb hK hP 5 2 rfl rfl (vp_in_nI (by omega) (by omega)) d_M_insert_37 ?_
      refine lv_topi (fun x_3 ex_3 => ?_)
      have hPc := hP.sub (ws' := [(hta, .inr (1, [.ref hty, .int (nI (k + j))])), (hty, .inl (cT, 256, .inl ((f))))]) [1, 2] rfl
      have hKc := hK.sub (tys' := [(cT, .byte)]) [0] rfl
      have hDc := hD.sub (ws' := [(hta, .inr (1, [.ref hty, .int (nI (k + j))])), (hty, .inl (cT, 256, .inl ((f))))]) [1, 2] (by decide) rfl
      have hFc := va_free (wc := [(hta, .inr (1, [.ref hty, .int (nI (k + j))])), (hty, .inl (cT, 256, .inl ((f))))]) hD hS hA [1, 2] rfl
      refine va_callv (va_runV (As := [.int x_3]) (rest := []) ⟨hx, hb, hml, hown, hw0⟩ (g_addByte l dC dI H.size hta hty cT (k + j) (f) _ x_3 (by first | assumption | decide | omega) (by first | assumption | decide | omega)) (cwV 1 hw0 (gd_Vm wm_265 wm_191 wm_192 wm_151 wm_193) rfl rfl rfl (by decide +kernel) ⟨by decide +kernel, by decide +kernel⟩) (prV_E hPc hKc hDc hN (va_recv hKc hPc (ci := 1) (q0 := 0) rfl rfl)) rfl rfl hl.1 rfl (lv_room (Nat.le_of_ble_eq_true rfl)) d_M_insert_38 ⟨by decide +kernel, by decide +kernel⟩) hS (fun q _ h => hFc q h) hFc (fun u t H1 locs ht hvm hw hB hz1 hk1 hS => ?_)
      obtain ⟨f2_4, hu_5, hP1, hK1, hD1⟩ := hB
      rw [ht] at hP1
      have hK1 := va_K.moved hvm.symm hK1
      try dsimp only at hw
      obtain ⟨hP, hD⟩ := va_join (wr := [(h0, .inr (2, [.ref hba, .ref hta, .ref hpi, .int (nI a)])), (hba, .inr (1, [.ref hby, .int (nI kb)])), (hby, .inl (cB, 256, .inl (fb))), (hpi, .inl (cP, np, .inl (fp)))]) (w1 := [(hta, .inr (1, [.ref hty, .int (nI ((k + j) + 1))])), (hty, .inl (cT, 256, .inl (f2_4)))]) hP hD [1, 2] [0, 3, 4, 5] rfl rfl (by decide) (by decide) hk1 hFc hP1 hD1
      generalize H1 = H at hP hS ⊢
      replace hP : va_P (dC, dI) vwCl [(h0, .inr (2, [.ref hba, .ref hta, .ref hpi, .int (nI a)])), (hba, .inr (1, [.ref hby, .int (nI kb)])), (hby, .inl (cB, 256, .inl (fb))), (hpi, .inl (cP, np, .inl (fp))), (hta, .inr (1, [.ref hty, .int (nI ((k + j) + 1))])), (hty, .inl (cT, 256, .inl (f2_4)))] H := hP
      replace hD : va_D A [(h0, .inr (2, [.ref hba, .ref hta, .ref hpi, .int (nI a)])), (hba, .inr (1, [.ref hby, .int (nI kb)])), (hby, .inl (cB, 256, .inl (fb))), (hpi, .inl (cP, np, .inl (fp))), (hta, .inr (1, [.ref hty, .int (nI ((k + j) + 1))])), (hty, .inl (cT, 256, .inl (f2_4)))] := hD
      replace hK : va_K (dC, dI) vwCl [(cT, .byte), (cB, .byte), (cP, .byte)] s := hK
      refine lv_iinc (v := nI (j + 1)) (lv' := [(2, .int (nI (j + 1))), (0, .ref h0), (1, .int (nI cn))]) hx hb d_M_insert_41 hl (k := 0) rfl (nI_1 j) (by decide) rfl (fun ls hl => ?_)
      refine lv_goto (tgt := 18) hx hb d_M_insert_44 (by decide) ?_
      have eq9 : k + j + 1 = k + (j + 1) := by omega
      rw [eq9] at hP hD hu_5
      exact ih (j + 1) hlt (by omega) f2_4 (y_mk hs9 (by omega) (by omega) ex_3 hu_5) _ _ (hP.sub (ws' := [(h0, .inr (2, [.ref hba, .ref hta, .ref hpi, .int (nI a)])), (hta, .inr (1, [.ref hty, .int (nI (k + (j + 1)))])), (hty, .inl (cT, 256, .inl (f2_4))), (hba, .inr (1, [.ref hby, .int (nI kb)])), (hby, .inl (cB, 256, .inl (fb))), (hpi, .inl (cP, np, .inl (fp)))]) [0, 4, 5, 1, 2, 3] rfl) (hD.sub (ws' := [(h0, .inr (2, [.ref hba, .ref hta, .ref hpi, .int (nI a)])), (hta, .inr (1, [.ref hty, .int (nI (k + (j + 1)))])), (hty, .inl (cT, 256, .inl (f2_4))), (hba, .inr (1, [.ref hby, .int (nI kb)])), (hby, .inl (cB, 256, .inl (fb))), (hpi, .inl (cP, np, .inl (fp)))]) [0, 4, 5, 1, 2, 3] (by decide) rfl) hS ls (lv_sub hl [0, 1, 2] rfl)
set_option maxHeartbeats 4000000 in
set_option maxRecDepth 100000 in
theorem g_insert (l : Launch) (dC : Nat → ClassId) (dI : Nat → Nat → Nat) (sz : Nat) (h0 : Nat) (hba : Nat) (hta : Nat) (hpi : Nat) (hty : Nat) (cT : ClassId) (k : Nat) (T : List Int32) (hby : Nat) (cB : ClassId) (kb : Nat) (fb : Nat → Int32) (Bs : List Int32) (cP : ClassId) (np : Nat) (fp : Nat → Int32) (S : List Int32) (a : Nat) (f : Nat → Int32) (cn : Nat) (htt : tx T k f) (htb : tx Bs kb fb) (hs9 : tx S np fp) (hk : k ≤ 256) (hkb : kb ≤ 256) (hn : np ≤ 16384) (ha : a ≤ np) (hc : k + cn ≤ 256) : Met l y_M_insert k_M_insert ({ frames := 1, cells := 0, slots := 0, locals := 21 } : Room) (va_Pc [.ref h0, .int (nI cn)] (pc_E (dC, dI) [(h0, .inr (2, [.ref hba, .ref hta, .ref hpi, .int (nI a)])), (hta, .inr (1, [.ref hty, .int (nI k)])), (hty, .inl (cT, 256, .inl (f))), (hba, .inr (1, [.ref hby, .int (nI kb)])), (hby, .inl (cB, 256, .inl (fb))), (hpi, .inl (cP, np, .inl (fp)))] [(cT, .byte), (cB, .byte), (cP, .byte)] sz)) (va_Qi (fun (r : Int32) (_ : Unit) => r = bI (if S.length < a + cn then (none : Option (List Int32 × Nat)) else some (T ++ (S.drop a).take cn, a + cn)).isSome) (fun (_ : Unit) t => ∃ (a2 : Nat) (k2 : Nat) (f2 : Nat → Int32) (T2 : List Int32), ((tx T2 k2 f2 ∧ k2 ≤ 256 ∧ a2 ≤ np) ∧ cmR (if S.length < a + cn then (none : Option (List Int32 × Nat)) else some (T ++ (S.drop a).take cn, a + cn)) T2 a2) ∧ at_E (dC, dI) (va_A [(h0, .inr (2, [.ref hba, .ref hta, .ref hpi, .int (nI a)])), (hta, .inr (1, [.ref hty, .int (nI k)])), (hty, .inl (cT, 256, .inl (f))), (hba, .inr (1, [.ref hby, .int (nI kb)])), (hby, .inl (cB, 256, .inl (fb))), (hpi, .inl (cP, np, .inl (fp)))] sz) [(h0, .inr (2, [.ref hba, .ref hta, .ref hpi, .int (nI a2)])), (hta, .inr (1, [.ref hty, .int (nI k2)])), (hty, .inl (cT, 256, .inl (f2))), (hba, .inr (1, [.ref hby, .int (nI kb)])), (hby, .inl (cB, 256, .inl (fb))), (hpi, .inl (cP, np, .inl (fp)))] [(cT, .byte), (cB, .byte), (cP, .byte)] t) (va_A [(h0, .inr (2, [.ref hba, .ref hta, .ref hpi, .int (nI a)])), (hta, .inr (1, [.ref hty, .int (nI k)])), (hty, .inl (cT, 256, .inl (f))), (hba, .inr (1, [.ref hby, .int (nI kb)])), (hby, .inl (cB, 256, .inl (fb))), (hpi, .inl (cP, np, .inl (fp)))] sz)) 0 0 (va_A [(h0, .inr (2, [.ref hba, .ref hta, .ref hpi, .int (nI a)])), (hta, .inr (1, [.ref hty, .int (nI k)])), (hty, .inl (cT, 256, .inl (f))), (hba, .inr (1, [.ref hby, .int (nI kb)])), (hby, .inl (cB, 256, .inl (fb))), (hpi, .inl (cP, np, .inl (fp)))] sz) := by
  refine Met.ofW (cc := prog_3_method_6_code) (maxL := 3) (ret := (some .boolean)) (by decide) rfl ?_
  intro p e s m args below meth c s₁ B hml hv
  obtain ⟨rfl, hsz, hP, hK, hD0, hN⟩ := hv
  have hx := B.exec
  have hb := B.bytes
  have hr := B.returns
  have hts := atoms_spec (ws := k_M_insert) B.pre
  have hw0 : ∀ w ∈ w0, w.before _ s = true := fun w h => hts w (List.mem_cons_of_mem _ h)
  have hown : s.vm.findClass R_M = some m.cls := findClass_of_methodNamed B.named
  have hlocks := B.notSynchronized
  subst hsz
  have hD := hD0.self (sz := s.heap.size)
  generalize hAe : va_A [(h0, .inr (2, [.ref hba, .ref hta, .ref hpi, .int (nI a)])), (hta, .inr (1, [.ref hty, .int (nI k)])), (hty, .inl (cT, 256, .inl (f))), (hba, .inr (1, [.ref hby, .int (nI kb)])), (hby, .inl (cB, 256, .inl (fb))), (hpi, .inl (cP, np, .inl (fp)))] s.heap.size = A at hD ⊢
  have hA : ∀ q : Nat, s.heap.size ≤ q → A q := fun q h => by rw [← hAe]; exact Or.inr h
  have hS : va_S A s.heap s.heap [] := va_S.rf
  have hP : va_P (dC, dI) vwCl [(h0, .inr (2, [.ref hba, .ref hta, .ref hpi, .int (nI a)])), (hta, .inr (1, [.ref hty, .int (nI k)])), (hty, .inl (cT, 256, .inl (f))), (hba, .inr (1, [.ref hby, .int (nI kb)])), (hby, .inl (cB, 256, .inl (fb))), (hpi, .inl (cP, np, .inl (fp)))] s.heap := hP
  have hl := lv_entry ([.ref h0, .int (nI cn)]) (n := 3) (Nat.le_of_ble_eq_true rfl)
  rw [lg_entry_eq]
  generalize (lg_sl ([.ref h0, .int (nI cn)]) ++ List.replicate (3 - (lg_sl ([.ref h0, .int (nI cn)])).length) Slot.unset).toArray = ls at hl ⊢
  have hl : lv_has ls 3 [(0, .ref h0), (1, .int (nI cn))] := hl
  refine lv_iload_n hx hb d_M_insert_0 rfl (lv_at hl 1 rfl) ?_
  refine lv_aload_n hx hb d_M_insert_1 rfl (lv_at hl 0 rfl) ?_
  refine va_get (D := (dC, dI)) (ci := 2) (v := .ref hpi) (C := R_M) (T := F_M) (N := 4) hx hb hw0 in_M hown hK hP 0 rfl rfl 2 (by decide) (hw0 (.fieldLink R_M 21 "TextKeeper$Maker" "piece" "[B") wm_157) (fun _ h9 => h9) rfl d_M_insert_2 ?_
  refine va_alen (v := nI np) hx hb hK hP 5 2 rfl rfl (rfl) d_M_insert_5 ?_
  refine lv_aload_n hx hb d_M_insert_6 rfl (lv_at hl 0 rfl) ?_
  refine va_get (D := (dC, dI)) (ci := 2) (v := .int (nI a)) (C := R_M) (T := F_M) (N := 4) hx hb hw0 in_M hown hK hP 0 rfl rfl 3 (by decide) (hw0 (.fieldLink R_M 25 "TextKeeper$Maker" "at" "I") wm_158) (fun _ h9 => h9) rfl d_M_insert_7 ?_
  refine lv_isub hx hb d_M_insert_10 ?_
  refine lv_topi (fun x_1 ex_1 => ?_)
  obtain rfl : x_1 = (nI (np - a)) := by rw [ex_1]; exact pk_sub ha
  clear ex_1
  refine lv_icmp_le (tgt := 16) hx hb d_M_insert_11 (by decide) (fun c_2 => ?_) (fun c_2 => ?_)
  · have hac : a + cn ≤ np := (by have h8 := (nI_leI (by omega) (by omega)).mp c_2; omega)
    refine lv_iconst (v := 0) hx hb d_M_insert_16 (by decide) ?_
    refine lv_istore_n (lv' := [(2, .int 0), (0, .ref h0), (1, .int (nI cn))]) hx hb d_M_insert_17 rfl hl (by decide) rfl (fun ls hl => ?_)
    refine lq_mki h0 hba hta hpi hty cT k T hby cB kb fb Bs cP np fp S a cn htb hs9 hk hkb hn hc hac hx hb hml hown hw0 hN (hK.sub (tys' := [(cT, .byte), (cB, .byte), (cP, .byte)]) [0, 1, 2] rfl) hA (fun f9 hf9 H locs hP hD hS ls hl => ?_) (cn + 1) 0 (by omega) (by omega) f (by rw [List.take_zero, List.append_nil]; exact htt) _ _ (hP.sub (ws' := [(h0, .inr (2, [.ref hba, .ref hta, .ref hpi, .int (nI a)])), (hta, .inr (1, [.ref hty, .int (nI (k + 0))])), (hty, .inl (cT, 256, .inl (f))), (hba, .inr (1, [.ref hby, .int (nI kb)])), (hby, .inl (cB, 256, .inl (fb))), (hpi, .inl (cP, np, .inl (fp)))]) [0, 1, 2, 3, 4, 5] rfl) (hD.sub (ws' := [(h0, .inr (2, [.ref hba, .ref hta, .ref hpi, .int (nI a)])), (hta, .inr (1, [.ref hty, .int (nI (k + 0))])), (hty, .inl (cT, 256, .inl (f))), (hba, .inr (1, [.ref hby, .int (nI kb)])), (hby, .inl (cB, 256, .inl (fb))), (hpi, .inl (cP, np, .inl (fp)))]) [0, 1, 2, 3, 4, 5] (by decide) rfl) hS ls (lv_sub hl [0, 1, 2] rfl)
    replace hK := hK.sub (tys' := [(cT, .byte), (cB, .byte), (cP, .byte)]) [0, 1, 2] rfl
    refine lv_aload_n hx hb d_M_insert_47 rfl (lv_at hl 1 rfl) ?_
    refine lv_dup hx hb d_M_insert_48 rfl ?_
    refine va_get (D := (dC, dI)) (ci := 2) (v := .int (nI a)) (C := R_M) (T := F_M) (N := 4) hx hb hw0 in_M hown hK hP 0 rfl rfl 3 (by decide) (hw0 (.fieldLink R_M 25 "TextKeeper$Maker" "at" "I") wm_158) (fun _ h9 => h9) rfl d_M_insert_49 ?_
    refine lv_iload_n hx hb d_M_insert_52 rfl (lv_at hl 2 rfl) ?_
    refine lv_iadd hx hb d_M_insert_53 ?_
    refine lv_topi (fun x_3 ex_3 => ?_)
    obtain rfl : x_3 = (nI (a + cn)) := by rw [ex_3]; exact nI_add a cn
    clear ex_3
    refine va_put (D := (dC, dI)) (ci := 2) (v := .int (nI (a + cn))) (ty := .int) (C := R_M) (T := F_M) (N := 4) hx hb hw0 in_M ft_M tk_M nk_M hown hK hP hD hS 0 rfl rfl 3 (by decide) (hw0 (.fieldLink R_M 25 "TextKeeper$Maker" "at" "I") wm_158) (fun _ h9 => h9) rfl (by decide +kernel) rfl rfl (Nat.le_of_ble_eq_true rfl) d_M_insert_54 (fun H locs hP hD hS => ?_)
    replace hP : va_P (dC, dI) vwCl [(h0, .inr (2, [.ref hba, .ref hta, .ref hpi, .int (nI (a + cn))])), (hta, .inr (1, [.ref hty, .int (nI (k + cn))])), (hty, .inl (cT, 256, .inl (f9))), (hba, .inr (1, [.ref hby, .int (nI kb)])), (hby, .inl (cB, 256, .inl (fb))), (hpi, .inl (cP, np, .inl (fp)))] H := hP
    replace hD : va_D A [(h0, .inr (2, [.ref hba, .ref hta, .ref hpi, .int (nI (a + cn))])), (hta, .inr (1, [.ref hty, .int (nI (k + cn))])), (hty, .inl (cT, 256, .inl (f9))), (hba, .inr (1, [.ref hby, .int (nI kb)])), (hby, .inl (cB, 256, .inl (fb))), (hpi, .inl (cP, np, .inl (fp)))] := hD
    refine lv_iconst (v := 1) hx hb d_M_insert_57 (by decide) ?_
    have hP9 := hP.sub (ws' := [(h0, .inr (2, [.ref hba, .ref hta, .ref hpi, .int (nI (a + cn))])), (hta, .inr (1, [.ref hty, .int (nI (k + cn))])), (hty, .inl (cT, 256, .inl (f9))), (hba, .inr (1, [.ref hby, .int (nI kb)])), (hby, .inl (cB, 256, .inl (fb))), (hpi, .inl (cP, np, .inl (fp)))]) [0, 1, 2, 3, 4, 5] rfl
    have hD9 := hD.sub (ws' := [(h0, .inr (2, [.ref hba, .ref hta, .ref hpi, .int (nI (a + cn))])), (hta, .inr (1, [.ref hty, .int (nI (k + cn))])), (hty, .inl (cT, 256, .inl (f9))), (hba, .inr (1, [.ref hby, .int (nI kb)])), (hby, .inl (cB, 256, .inl (fb))), (hpi, .inl (cP, np, .inl (fp)))]) [0, 1, 2, 3, 4, 5] (by decide) rfl
    have hK9 := hK.sub (tys' := [(cT, .byte), (cB, .byte), (cP, .byte)]) [0, 1, 2] rfl
    exact W.zret (v := 1) (ty := .boolean) hx hb hr rfl (fun t ht hW => ⟨⟨1, (), rfl, (by rw [if_neg (by rw [hs9.1]; omega)]; rfl), (a + cn), (k + cn), f9, (T ++ (S.drop a).take cn), ⟨⟨hf9, hc, hac⟩, cmR_s (if_neg (by rw [hs9.1]; omega))⟩, by rw [ht]; exact hP9, va_K.moved hW.alike hK9, hD9⟩, hS.F ht⟩) hS.2.2 d_M_insert_58
  · have hcc : S.length < a + cn := (by rw [hs9.1]; rcases Nat.lt_or_ge np (a + cn) with z | z; exact z; exact absurd (nI_le (by omega) (by omega)) c_2)
    refine lv_iconst (v := 0) hx hb d_M_insert_14 (by decide) ?_
    have hP9 := hP.sub (ws' := [(h0, .inr (2, [.ref hba, .ref hta, .ref hpi, .int (nI a)])), (hta, .inr (1, [.ref hty, .int (nI k)])), (hty, .inl (cT, 256, .inl (f))), (hba, .inr (1, [.ref hby, .int (nI kb)])), (hby, .inl (cB, 256, .inl (fb))), (hpi, .inl (cP, np, .inl (fp)))]) [0, 1, 2, 3, 4, 5] rfl
    have hD9 := hD.sub (ws' := [(h0, .inr (2, [.ref hba, .ref hta, .ref hpi, .int (nI a)])), (hta, .inr (1, [.ref hty, .int (nI k)])), (hty, .inl (cT, 256, .inl (f))), (hba, .inr (1, [.ref hby, .int (nI kb)])), (hby, .inl (cB, 256, .inl (fb))), (hpi, .inl (cP, np, .inl (fp)))]) [0, 1, 2, 3, 4, 5] (by decide) rfl
    have hK9 := hK.sub (tys' := [(cT, .byte), (cB, .byte), (cP, .byte)]) [0, 1, 2] rfl
    exact W.zret (v := 0) (ty := .boolean) hx hb hr rfl (fun t ht hW => ⟨⟨0, (), rfl, (by rw [if_pos hcc]; rfl), a, k, f, T, ⟨⟨htt, hk, ha⟩, cmR_n (if_pos hcc)⟩, by rw [ht]; exact hP9, va_K.moved hW.alike hK9, hD9⟩, hS.F ht⟩) hS.2.2 d_M_insert_15
set_option maxHeartbeats 4000000 in
set_option maxRecDepth 100000 in
theorem lq_mkc {p : Program} {l : Launch} {e : Env} {s : State} {m : MethodId} {args : Array Value} {below : List Frame} {meth : Method} {c : Code} {dC : Nat → ClassId} {dI : Nat → Nat → Nat} {A : Nat → Prop} {Q : State → Prop} (h0 : Nat) (hba : Nat) (hta : Nat) (hpi : Nat) (hty : Nat) (cT : ClassId) (k : Nat) (T : List Int32) (hby : Nat) (cB : ClassId) (kb : Nat) (fb : Nat → Int32) (Bs : List Int32) (cP : ClassId) (np : Nat) (fp : Nat → Int32) (S : List Int32) (a : Nat) (cn : Nat) (pd : Nat) (htb : tx Bs kb fb) (hs9 : tx S np fp) (hk : k ≤ 256) (hkb : kb ≤ 256) (hn : np ≤ 16384) (hc : k + cn ≤ 256) (hdc : pd + cn ≤ kb)
    (hx : p.tables.exec = Jvm.exec) (hb : c.code = prog_3_method_7_code) (hml : c.maxLocals = 4) (hown : s.vm.findClass R_M = some m.cls) (hw0 : ∀ w ∈ w0, w.before args s = true) (hN : nw_ok s) (hK : va_K (dC, dI) vwCl [(cT, .byte), (cB, .byte), (cP, .byte)] s) (hA : ∀ q : Nat, s.heap.size ≤ q → A q)
    (kk : ∀ (f : Nat → Int32), (tx (T ++ (Bs.drop pd).take cn) (k + cn) f) → ∀ (H : Heap) (locs : List Loc), va_P (dC, dI) vwCl [(h0, .inr (2, [.ref hba, .ref hta, .ref hpi, .int (nI a)])), (hta, .inr (1, [.ref hty, .int (nI (k + cn))])), (hty, .inl (cT, 256, .inl (f))), (hba, .inr (1, [.ref hby, .int (nI kb)])), (hby, .inl (cB, 256, .inl (fb))), (hpi, .inl (cP, np, .inl (fp)))] H → va_D A [(h0, .inr (2, [.ref hba, .ref hta, .ref hpi, .int (nI a)])), (hta, .inr (1, [.ref hty, .int (nI (k + cn))])), (hty, .inl (cT, 256, .inl (f))), (hba, .inr (1, [.ref hby, .int (nI kb)])), (hby, .inl (cB, 256, .inl (fb))), (hpi, .inl (cP, np, .inl (fp)))] → va_S A s.heap H locs → ∀ ls : Array Slot, lv_has ls 4 [(3, .int (nI cn)), (0, .ref h0), (1, .int (nI cn)), (2, .int (nI pd))] → W p l e ({ frames := 1, cells := 0, slots := 0, locals := 23 } : Room) s m args below meth c H locs 0 0 Q (F0 m 54 ls [])) :
    ∀ (n j : Nat), j ≤ cn → cn < j + n → ∀ (f : Nat → Int32), (tx (T ++ (Bs.drop pd).take j) (k + j) f) → ∀ (H : Heap) (locs : List Loc), va_P (dC, dI) vwCl [(h0, .inr (2, [.ref hba, .ref hta, .ref hpi, .int (nI a)])), (hta, .inr (1, [.ref hty, .int (nI (k + j))])), (hty, .inl (cT, 256, .inl (f))), (hba, .inr (1, [.ref hby, .int (nI kb)])), (hby, .inl (cB, 256, .inl (fb))), (hpi, .inl (cP, np, .inl (fp)))] H → va_D A [(h0, .inr (2, [.ref hba, .ref hta, .ref hpi, .int (nI a)])), (hta, .inr (1, [.ref hty, .int (nI (k + j))])), (hty, .inl (cT, 256, .inl (f))), (hba, .inr (1, [.ref hby, .int (nI kb)])), (hby, .inl (cB, 256, .inl (fb))), (hpi, .inl (cP, np, .inl (fp)))] → va_S A s.heap H locs → ∀ ls : Array Slot, lv_has ls 4 [(3, .int (nI j)), (0, .ref h0), (1, .int (nI cn)), (2, .int (nI pd))] → W p l e ({ frames := 1, cells := 0, slots := 0, locals := 23 } : Room) s m args below meth c H locs 0 0 Q (F0 m 26 ls []) := by
  intro n
  induction n with
  | zero => intro j h1 h2; exact absurd h2 (by omega)
  | succ n ih =>
    intro j hj hn f hf0 H locs hP hD hS ls hl
    refine lv_iload_n hx hb d_M_copy_26 rfl (lv_at hl 0 rfl) ?_
    refine lv_iload_n hx hb d_M_copy_27 rfl (lv_at hl 2 rfl) ?_
    refine lv_icmp_ge (tgt := 54) hx hb d_M_copy_28 (by decide) (fun c_1 => ?_) (fun c_1 => ?_)
    · obtain rfl : j = cn := x_geN (by omega) hj c_1
      exact kk f hf0 _ _ hP hD hS ls (lv_sub hl [0, 1, 2, 3] rfl)
    · have hlt : j < cn := x_ltN (by omega) hj c_1
      refine lv_aload_n hx hb d_M_copy_31 rfl (lv_at hl 1 rfl) ?_
      refine va_get (D := (dC, dI)) (ci := 2) (v := .ref hta) (C := R_M) (T := F_M) (N := 4) hx hb hw0 in_M hown hK hP 0 rfl rfl 1 (by decide) (hw0 (.fieldLink R_M 18 "TextKeeper$Maker" "text" "LTextKeeper$Text;") wm_156) (fun _ h9 => h9) rfl d_M_copy_32 ?_
      refine lv_aload_n hx hb d_M_copy_35 rfl (lv_at hl 1 rfl) ?_
      refine va_get (D := (dC, dI)) (ci := 2) (v := .ref hba) (C := R_M) (T := F_M) (N := 4) hx hb hw0 in_M hown hK hP 0 rfl rfl 0 (by decide) (hw0 (.fieldLink R_M 12 "TextKeeper$Maker" "base" "LTextKeeper$Text;") wm_155) (fun _ h9 => h9) rfl d_M_copy_36 ?_
      refine lv_iload_n hx hb d_M_copy_39 rfl (lv_at hl 3 rfl) ?_
      refine lv_iload_n hx hb d_M_copy_40 rfl (lv_at hl 0 rfl) ?_
      refine lv_iadd hx hb d_M_copy_41 ?_
      refine lv_topi (fun x_2 ex_2 => ?_)
      obtain rfl : x_2 = (nI (pd + j)) := by rw [ex_2]; exact nI_add pd j
      clear ex_2
      have hPc := hP.sub (ws' := [(hba, .inr (1, [.ref hby, .int (nI kb)])), (hby, .inl (cB, 256, .inl ((fb))))]) [3, 4] rfl
      have hKc := hK.sub (tys' := [(cB, .byte)]) [1] rfl
      refine ps_i (va_runV (As := [.int (nI (pd + j))]) (rest := [.ref hta]) ⟨hx, hb, hml, hown, hw0⟩ (g_byteAt l dC dI hba hby cB kb (fb) Bs (nI (pd + j)) (by first | assumption | decide | omega) (by first | assumption | decide | omega)) (cwV 1 hw0 (gd_Vm wm_266 wm_210 wm_211 wm_151 wm_212) rfl rfl rfl (by decide +kernel) ⟨by decide +kernel, by decide +kernel⟩) (prV_R hPc hKc hN (va_recv hKc hPc (ci := 1) (q0 := 0) rfl rfl)) rfl rfl hl.1 rfl (lv_room (Nat.le_of_ble_eq_true rfl)) d_M_copy_42 ⟨by decide +kernel, by decide +kernel⟩) (fun r_3 hr_3 => ?_)
      obtain rfl : r_3 = (bAt Bs (nI (pd + j))) := hr_3
      have hPc := hP.sub (ws' := [(hta, .inr (1, [.ref hty, .int (nI (k + j))])), (hty, .inl (cT, 256, .inl ((f))))]) [1, 2] rfl
      have hKc := hK.sub (tys' := [(cT, .byte)]) [0] rfl
      have hDc := hD.sub (ws' := [(hta, .inr (1, [.ref hty, .int (nI (k + j))])), (hty, .inl (cT, 256, .inl ((f))))]) [1, 2] (by decide) rfl
      have hFc := va_free (wc := [(hta, .inr (1, [.ref hty, .int (nI (k + j))])), (hty, .inl (cT, 256, .inl ((f))))]) hD hS hA [1, 2] rfl
      refine va_callv (va_runV (As := [.int (bAt Bs (nI (pd + j)))]) (rest := []) ⟨hx, hb, hml, hown, hw0⟩ (g_addByte l dC dI H.size hta hty cT (k + j) (f) _ (bAt Bs (nI (pd + j))) (by first | assumption | decide | omega) (by first | assumption | decide | omega)) (cwV 1 hw0 (gd_Vm wm_265 wm_191 wm_192 wm_151 wm_193) rfl rfl rfl (by decide +kernel) ⟨by decide +kernel, by decide +kernel⟩) (prV_E hPc hKc hDc hN (va_recv hKc hPc (ci := 1) (q0 := 0) rfl rfl)) rfl rfl hl.1 rfl (lv_room (Nat.le_of_ble_eq_true rfl)) d_M_copy_45 ⟨by decide +kernel, by decide +kernel⟩) hS (fun q _ h => hFc q h) hFc (fun u t H1 locs ht hvm hw hB hz1 hk1 hS => ?_)
      obtain ⟨f2_4, hu_5, hP1, hK1, hD1⟩ := hB
      rw [ht] at hP1
      have hK1 := va_K.moved hvm.symm hK1
      try dsimp only at hw
      obtain ⟨hP, hD⟩ := va_join (wr := [(h0, .inr (2, [.ref hba, .ref hta, .ref hpi, .int (nI a)])), (hba, .inr (1, [.ref hby, .int (nI kb)])), (hby, .inl (cB, 256, .inl (fb))), (hpi, .inl (cP, np, .inl (fp)))]) (w1 := [(hta, .inr (1, [.ref hty, .int (nI ((k + j) + 1))])), (hty, .inl (cT, 256, .inl (f2_4)))]) hP hD [1, 2] [0, 3, 4, 5] rfl rfl (by decide) (by decide) hk1 hFc hP1 hD1
      generalize H1 = H at hP hS ⊢
      replace hP : va_P (dC, dI) vwCl [(h0, .inr (2, [.ref hba, .ref hta, .ref hpi, .int (nI a)])), (hba, .inr (1, [.ref hby, .int (nI kb)])), (hby, .inl (cB, 256, .inl (fb))), (hpi, .inl (cP, np, .inl (fp))), (hta, .inr (1, [.ref hty, .int (nI ((k + j) + 1))])), (hty, .inl (cT, 256, .inl (f2_4)))] H := hP
      replace hD : va_D A [(h0, .inr (2, [.ref hba, .ref hta, .ref hpi, .int (nI a)])), (hba, .inr (1, [.ref hby, .int (nI kb)])), (hby, .inl (cB, 256, .inl (fb))), (hpi, .inl (cP, np, .inl (fp))), (hta, .inr (1, [.ref hty, .int (nI ((k + j) + 1))])), (hty, .inl (cT, 256, .inl (f2_4)))] := hD
      replace hK : va_K (dC, dI) vwCl [(cT, .byte), (cB, .byte), (cP, .byte)] s := hK
      refine lv_iinc (v := nI (j + 1)) (lv' := [(3, .int (nI (j + 1))), (0, .ref h0), (1, .int (nI cn)), (2, .int (nI pd))]) hx hb d_M_copy_48 hl (k := 0) rfl (nI_1 j) (by decide) rfl (fun ls hl => ?_)
      refine lv_goto (tgt := 26) hx hb d_M_copy_51 (by decide) ?_
      have eq9 : k + j + 1 = k + (j + 1) := by omega
      rw [eq9] at hP hD hu_5
      exact ih (j + 1) hlt (by omega) f2_4 (y_cp htb (by omega) (by omega) hu_5) _ _ (hP.sub (ws' := [(h0, .inr (2, [.ref hba, .ref hta, .ref hpi, .int (nI a)])), (hta, .inr (1, [.ref hty, .int (nI (k + (j + 1)))])), (hty, .inl (cT, 256, .inl (f2_4))), (hba, .inr (1, [.ref hby, .int (nI kb)])), (hby, .inl (cB, 256, .inl (fb))), (hpi, .inl (cP, np, .inl (fp)))]) [0, 4, 5, 1, 2, 3] rfl) (hD.sub (ws' := [(h0, .inr (2, [.ref hba, .ref hta, .ref hpi, .int (nI a)])), (hta, .inr (1, [.ref hty, .int (nI (k + (j + 1)))])), (hty, .inl (cT, 256, .inl (f2_4))), (hba, .inr (1, [.ref hby, .int (nI kb)])), (hby, .inl (cB, 256, .inl (fb))), (hpi, .inl (cP, np, .inl (fp)))]) [0, 4, 5, 1, 2, 3] (by decide) rfl) hS ls (lv_sub hl [0, 1, 2, 3] rfl)
set_option maxHeartbeats 4000000 in
set_option maxRecDepth 100000 in
theorem g_copy (l : Launch) (dC : Nat → ClassId) (dI : Nat → Nat → Nat) (sz : Nat) (h0 : Nat) (hba : Nat) (hta : Nat) (hpi : Nat) (hty : Nat) (cT : ClassId) (k : Nat) (T : List Int32) (hby : Nat) (cB : ClassId) (kb : Nat) (fb : Nat → Int32) (Bs : List Int32) (cP : ClassId) (np : Nat) (fp : Nat → Int32) (S : List Int32) (a : Nat) (f : Nat → Int32) (cn : Nat) (htt : tx T k f) (htb : tx Bs kb fb) (hs9 : tx S np fp) (hk : k ≤ 256) (hkb : kb ≤ 256) (hn : np ≤ 16384) (ha : a ≤ np) (hc : k + cn ≤ 256) : Met l y_M_copy k_M_copy ({ frames := 1, cells := 0, slots := 0, locals := 23 } : Room) (va_Pc [.ref h0, .int (nI cn)] (pc_E (dC, dI) [(h0, .inr (2, [.ref hba, .ref hta, .ref hpi, .int (nI a)])), (hta, .inr (1, [.ref hty, .int (nI k)])), (hty, .inl (cT, 256, .inl (f))), (hba, .inr (1, [.ref hby, .int (nI kb)])), (hby, .inl (cB, 256, .inl (fb))), (hpi, .inl (cP, np, .inl (fp)))] [(cT, .byte), (cB, .byte), (cP, .byte)] sz)) (va_Qi (fun (r : Int32) (_ : Unit) => r = bI (cpc S Bs T a cn).isSome) (fun (_ : Unit) t => ∃ (a2 : Nat) (k2 : Nat) (f2 : Nat → Int32) (T2 : List Int32), ((tx T2 k2 f2 ∧ k2 ≤ 256 ∧ a2 ≤ np) ∧ cmR (cpc S Bs T a cn) T2 a2) ∧ at_E (dC, dI) (va_A [(h0, .inr (2, [.ref hba, .ref hta, .ref hpi, .int (nI a)])), (hta, .inr (1, [.ref hty, .int (nI k)])), (hty, .inl (cT, 256, .inl (f))), (hba, .inr (1, [.ref hby, .int (nI kb)])), (hby, .inl (cB, 256, .inl (fb))), (hpi, .inl (cP, np, .inl (fp)))] sz) [(h0, .inr (2, [.ref hba, .ref hta, .ref hpi, .int (nI a2)])), (hta, .inr (1, [.ref hty, .int (nI k2)])), (hty, .inl (cT, 256, .inl (f2))), (hba, .inr (1, [.ref hby, .int (nI kb)])), (hby, .inl (cB, 256, .inl (fb))), (hpi, .inl (cP, np, .inl (fp)))] [(cT, .byte), (cB, .byte), (cP, .byte)] t) (va_A [(h0, .inr (2, [.ref hba, .ref hta, .ref hpi, .int (nI a)])), (hta, .inr (1, [.ref hty, .int (nI k)])), (hty, .inl (cT, 256, .inl (f))), (hba, .inr (1, [.ref hby, .int (nI kb)])), (hby, .inl (cB, 256, .inl (fb))), (hpi, .inl (cP, np, .inl (fp)))] sz)) 0 0 (va_A [(h0, .inr (2, [.ref hba, .ref hta, .ref hpi, .int (nI a)])), (hta, .inr (1, [.ref hty, .int (nI k)])), (hty, .inl (cT, 256, .inl (f))), (hba, .inr (1, [.ref hby, .int (nI kb)])), (hby, .inl (cB, 256, .inl (fb))), (hpi, .inl (cP, np, .inl (fp)))] sz) := by
  refine Met.ofW (cc := prog_3_method_7_code) (maxL := 4) (ret := (some .boolean)) (by decide) rfl ?_
  intro p e s m args below meth c s₁ B hml hv
  obtain ⟨rfl, hsz, hP, hK, hD0, hN⟩ := hv
  have hx := B.exec
  have hb := B.bytes
  have hr := B.returns
  have hts := atoms_spec (ws := k_M_copy) B.pre
  have hw0 : ∀ w ∈ w0, w.before _ s = true := fun w h => hts w (List.mem_cons_of_mem _ h)
  have hown : s.vm.findClass R_M = some m.cls := findClass_of_methodNamed B.named
  have hlocks := B.notSynchronized
  subst hsz
  have hD := hD0.self (sz := s.heap.size)
  generalize hAe : va_A [(h0, .inr (2, [.ref hba, .ref hta, .ref hpi, .int (nI a)])), (hta, .inr (1, [.ref hty, .int (nI k)])), (hty, .inl (cT, 256, .inl (f))), (hba, .inr (1, [.ref hby, .int (nI kb)])), (hby, .inl (cB, 256, .inl (fb))), (hpi, .inl (cP, np, .inl (fp)))] s.heap.size = A at hD ⊢
  have hA : ∀ q : Nat, s.heap.size ≤ q → A q := fun q h => by rw [← hAe]; exact Or.inr h
  have hS : va_S A s.heap s.heap [] := va_S.rf
  have hP : va_P (dC, dI) vwCl [(h0, .inr (2, [.ref hba, .ref hta, .ref hpi, .int (nI a)])), (hta, .inr (1, [.ref hty, .int (nI k)])), (hty, .inl (cT, 256, .inl (f))), (hba, .inr (1, [.ref hby, .int (nI kb)])), (hby, .inl (cB, 256, .inl (fb))), (hpi, .inl (cP, np, .inl (fp)))] s.heap := hP
  have hl := lv_entry ([.ref h0, .int (nI cn)]) (n := 4) (Nat.le_of_ble_eq_true rfl)
  rw [lg_entry_eq]
  generalize (lg_sl ([.ref h0, .int (nI cn)]) ++ List.replicate (4 - (lg_sl ([.ref h0, .int (nI cn)])).length) Slot.unset).toArray = ls at hl ⊢
  have hl : lv_has ls 4 [(0, .ref h0), (1, .int (nI cn))] := hl
  refine lv_aload_n hx hb d_M_copy_0 rfl (lv_at hl 0 rfl) ?_
  have hPc := hP.sub (ws' := [(h0, .inr (2, [.ref hba, .ref hta, .ref hpi, .int (nI a)])), (hpi, .inl (cP, np, .inl ((fp))))]) [0, 5] rfl
  have hKc := hK.sub (tys' := [(cP, .byte)]) [2] rfl
  have hDc := hD.sub (ws' := [(h0, .inr (2, [.ref hba, .ref hta, .ref hpi, .int (nI a)])), (hpi, .inl (cP, np, .inl ((fp))))]) [0, 5] (by decide) rfl
  have hFc := va_free (wc := [(h0, .inr (2, [.ref hba, .ref hta, .ref hpi, .int (nI a)])), (hpi, .inl (cP, np, .inl ((fp))))]) hD hS hA [0, 5] rfl
  refine va_calli (va_runV (As := []) (rest := []) ⟨hx, hb, hml, hown, hw0⟩ (g_readNumber l dC dI s.heap.size h0 (.ref hba) (.ref hta) hpi cP np (fp) _ a (by first | assumption | decide | omega) (by first | assumption | decide | omega) (by first | assumption | decide | omega)) (cwV 0 hw0 (gd_Vm wm_267 wm_268 wm_269 wm_169 wm_270) rfl rfl rfl (by decide +kernel) ⟨by decide +kernel, by decide +kernel⟩) (prV_E hPc hKc hDc hN (va_recv hKc hPc (ci := 2) (q0 := 0) rfl rfl)) rfl rfl hl.1 rfl (lv_room (Nat.le_of_ble_eq_true rfl)) d_M_copy_1 ⟨by decide +kernel, by decide +kernel⟩) hS (fun q _ h => hFc q h) hFc (fun r_1 u t H1 locs ht hvm hw hB hz1 hk1 hS => ?_)
  obtain ⟨a2_2, hu_3, hP1, hK1, hD1⟩ := hB
  rw [ht] at hP1
  have hK1 := va_K.moved hvm.symm hK1
  try dsimp only at hw
  obtain ⟨hP, hD⟩ := va_join (wr := [(hta, .inr (1, [.ref hty, .int (nI k)])), (hty, .inl (cT, 256, .inl (f))), (hba, .inr (1, [.ref hby, .int (nI kb)])), (hby, .inl (cB, 256, .inl (fb)))]) (w1 := [(h0, .inr (2, [.ref hba, .ref hta, .ref hpi, .int (nI a2_2)])), (hpi, .inl (cP, np, .inl ((fp))))]) hP hD [0, 5] [1, 2, 3, 4] rfl rfl (by decide) (by decide) hk1 hFc hP1 hD1
  generalize H1 = H at hP hS ⊢
  replace hP : va_P (dC, dI) vwCl [(hta, .inr (1, [.ref hty, .int (nI k)])), (hty, .inl (cT, 256, .inl (f))), (hba, .inr (1, [.ref hby, .int (nI kb)])), (hby, .inl (cB, 256, .inl (fb))), (h0, .inr (2, [.ref hba, .ref hta, .ref hpi, .int (nI a2_2)])), (hpi, .inl (cP, np, .inl ((fp))))] H := hP
  replace hD : va_D A [(hta, .inr (1, [.ref hty, .int (nI k)])), (hty, .inl (cT, 256, .inl (f))), (hba, .inr (1, [.ref hby, .int (nI kb)])), (hby, .inl (cB, 256, .inl (fb))), (h0, .inr (2, [.ref hba, .ref hta, .ref hpi, .int (nI a2_2)])), (hpi, .inl (cP, np, .inl ((fp))))] := hD
  replace hK : va_K (dC, dI) vwCl [(cT, .byte), (cB, .byte), (cP, .byte)] s := hK
  have hw_4 := hw
  rcases hq9 : (rd S a).1 with _ | pd
  · rw [hq9] at hw_4; obtain rfl : r_1 = -1 := hw_4; have ha2 : a2_2 ≤ np := (by have h8 := rd_le (S := S) (a := a) (by rw [hs9.1]; exact ha); rw [hs9.1] at h8; omega)
    refine lv_istore_n (lv' := [(2, .int (-1)), (0, .ref h0), (1, .int (nI cn))]) hx hb d_M_copy_4 rfl hl (by decide) rfl (fun ls hl => ?_)
    refine lv_iload_n hx hb d_M_copy_5 rfl (lv_at hl 0 rfl) ?_
    refine lv_if_lt (tgt := 22) hx hb d_M_copy_6 (by decide) (fun _ => ?_) (fun h9 => absurd h9 (by decide +kernel))
    refine lv_iconst (v := 0) hx hb d_M_copy_22 (by decide) ?_
    have hP9 := hP.sub (ws' := [(h0, .inr (2, [.ref hba, .ref hta, .ref hpi, .int (nI a2_2)])), (hta, .inr (1, [.ref hty, .int (nI k)])), (hty, .inl (cT, 256, .inl (f))), (hba, .inr (1, [.ref hby, .int (nI kb)])), (hby, .inl (cB, 256, .inl (fb))), (hpi, .inl (cP, np, .inl (fp)))]) [4, 0, 1, 2, 3, 5] rfl
    have hD9 := hD.sub (ws' := [(h0, .inr (2, [.ref hba, .ref hta, .ref hpi, .int (nI a2_2)])), (hta, .inr (1, [.ref hty, .int (nI k)])), (hty, .inl (cT, 256, .inl (f))), (hba, .inr (1, [.ref hby, .int (nI kb)])), (hby, .inl (cB, 256, .inl (fb))), (hpi, .inl (cP, np, .inl (fp)))]) [4, 0, 1, 2, 3, 5] (by decide) rfl
    have hK9 := hK.sub (tys' := [(cT, .byte), (cB, .byte), (cP, .byte)]) [0, 1, 2] rfl
    exact W.zret (v := 0) (ty := .boolean) hx hb hr rfl (fun t ht hW => ⟨⟨0, (), rfl, (by rw [show cpc S Bs T a cn = none from by first | exact cpc_0 hq9 | exact cpc_1 hq9 hcc]; rfl), a2_2, k, f, T, ⟨⟨htt, hk, ha2⟩, cmR_n (by first | exact cpc_0 hq9 | exact cpc_1 hq9 hcc)⟩, by rw [ht]; exact hP9, va_K.moved hW.alike hK9, hD9⟩, hS.F ht⟩) hS.2.2 d_M_copy_23
  · rw [hq9] at hw_4; obtain rfl : r_1 = nI pd := hw_4; have ha2 : a2_2 ≤ np := (by have h8 := rd_le (S := S) (a := a) (by rw [hs9.1]; exact ha); rw [hs9.1] at h8; omega); have hd9 := (rd_some hq9).1
    refine lv_istore_n (lv' := [(2, .int (nI pd)), (0, .ref h0), (1, .int (nI cn))]) hx hb d_M_copy_4 rfl hl (by decide) rfl (fun ls hl => ?_)
    refine lv_iload_n hx hb d_M_copy_5 rfl (lv_at hl 0 rfl) ?_
    refine lv_if_lt (tgt := 22) hx hb d_M_copy_6 (by decide) (fun c_5 => absurd c_5 (nI_pos (by omega))) (fun c_5 => ?_)
    refine lv_iload_n hx hb d_M_copy_9 rfl (lv_at hl 2 rfl) ?_
    refine lv_aload_n hx hb d_M_copy_10 rfl (lv_at hl 1 rfl) ?_
    refine va_get (D := (dC, dI)) (ci := 2) (v := .ref hba) (C := R_M) (T := F_M) (N := 4) hx hb hw0 in_M hown hK hP 4 rfl rfl 0 (by decide) (hw0 (.fieldLink R_M 12 "TextKeeper$Maker" "base" "LTextKeeper$Text;") wm_155) (fun _ h9 => h9) rfl d_M_copy_11 ?_
    refine va_getN (D := (dC, dI)) (ci := 1) (v := .int (nI kb)) (C := R_T) (T := F_T) (N := 2) hx hb hw0 in_T hown hK hP 2 rfl rfl 1 (by decide) (va_Nw.use rfl (hN.1 (.fieldLinkNest R_M 75 "TextKeeper$Text" "length" "I" "TextKeeper") (List.mem_of_getElem? (i := 7) rfl))) (fun _ h9 => h9) rfl d_M_copy_14 ?_
    refine lv_iload_n hx hb d_M_copy_17 rfl (lv_at hl 0 rfl) ?_
    refine lv_isub hx hb d_M_copy_18 ?_
    refine lv_topi (fun x_6 ex_6 => ?_)
    obtain rfl : x_6 = (nI kb - nI pd) := by rw [ex_6]; done
    clear ex_6
    refine lv_icmp_le (tgt := 24) hx hb d_M_copy_19 (by decide) (fun c_7 => ?_) (fun c_7 => ?_)
    · have hdc : pd + cn ≤ kb := (by have h8 := (x_subLe (by omega) (by omega) (by omega)).mp c_7; omega)
      refine lv_iconst (v := 0) hx hb d_M_copy_24 (by decide) ?_
      refine lv_istore_n (lv' := [(3, .int 0), (2, .int (nI pd)), (0, .ref h0), (1, .int (nI cn))]) hx hb d_M_copy_25 rfl hl (by decide) rfl (fun ls hl => ?_)
      refine lq_mkc h0 hba hta hpi hty cT k T hby cB kb fb Bs cP np fp S (a2_2) cn pd htb hs9 hk hkb hn hc hdc hx hb hml hown hw0 hN (hK.sub (tys' := [(cT, .byte), (cB, .byte), (cP, .byte)]) [0, 1, 2] rfl) hA (fun f9 hf9 H locs hP hD hS ls hl => ?_) (cn + 1) 0 (by omega) (by omega) f (by rw [List.take_zero, List.append_nil]; exact htt) _ _ (hP.sub (ws' := [(h0, .inr (2, [.ref hba, .ref hta, .ref hpi, .int (nI a2_2)])), (hta, .inr (1, [.ref hty, .int (nI (k + 0))])), (hty, .inl (cT, 256, .inl (f))), (hba, .inr (1, [.ref hby, .int (nI kb)])), (hby, .inl (cB, 256, .inl (fb))), (hpi, .inl (cP, np, .inl (fp)))]) [4, 0, 1, 2, 3, 5] rfl) (hD.sub (ws' := [(h0, .inr (2, [.ref hba, .ref hta, .ref hpi, .int (nI a2_2)])), (hta, .inr (1, [.ref hty, .int (nI (k + 0))])), (hty, .inl (cT, 256, .inl (f))), (hba, .inr (1, [.ref hby, .int (nI kb)])), (hby, .inl (cB, 256, .inl (fb))), (hpi, .inl (cP, np, .inl (fp)))]) [4, 0, 1, 2, 3, 5] (by decide) rfl) hS ls (lv_sub hl [0, 2, 3, 1] rfl)
      replace hK := hK.sub (tys' := [(cT, .byte), (cB, .byte), (cP, .byte)]) [0, 1, 2] rfl
      refine lv_iconst (v := 1) hx hb d_M_copy_54 (by decide) ?_
      have hP9 := hP.sub (ws' := [(h0, .inr (2, [.ref hba, .ref hta, .ref hpi, .int (nI a2_2)])), (hta, .inr (1, [.ref hty, .int (nI (k + cn))])), (hty, .inl (cT, 256, .inl (f9))), (hba, .inr (1, [.ref hby, .int (nI kb)])), (hby, .inl (cB, 256, .inl (fb))), (hpi, .inl (cP, np, .inl (fp)))]) [0, 1, 2, 3, 4, 5] rfl
      have hD9 := hD.sub (ws' := [(h0, .inr (2, [.ref hba, .ref hta, .ref hpi, .int (nI a2_2)])), (hta, .inr (1, [.ref hty, .int (nI (k + cn))])), (hty, .inl (cT, 256, .inl (f9))), (hba, .inr (1, [.ref hby, .int (nI kb)])), (hby, .inl (cB, 256, .inl (fb))), (hpi, .inl (cP, np, .inl (fp)))]) [0, 1, 2, 3, 4, 5] (by decide) rfl
      have hK9 := hK.sub (tys' := [(cT, .byte), (cB, .byte), (cP, .byte)]) [0, 1, 2] rfl
      exact W.zret (v := 1) (ty := .boolean) hx hb hr rfl (fun t ht hW => ⟨⟨1, (), rfl, (by rw [cpc_2 hq9 (by rw [htb.1]; omega)]; rfl), a2_2, (k + cn), f9, (T ++ (Bs.drop pd).take cn), ⟨⟨hf9, hc, ha2⟩, cmR_s (by rw [hu_3]; exact cpc_2 hq9 (by rw [htb.1]; omega))⟩, by rw [ht]; exact hP9, va_K.moved hW.alike hK9, hD9⟩, hS.F ht⟩) hS.2.2 d_M_copy_55
    · have hcc : Bs.length < pd + cn := (by rw [htb.1]; rcases Nat.lt_or_ge kb (pd + cn) with z | z; exact z; exact absurd ((x_subLe (by omega) (by omega) (by omega)).mpr (by omega)) c_7)
      refine lv_iconst (v := 0) hx hb d_M_copy_22 (by decide) ?_
      have hP9 := hP.sub (ws' := [(h0, .inr (2, [.ref hba, .ref hta, .ref hpi, .int (nI a2_2)])), (hta, .inr (1, [.ref hty, .int (nI k)])), (hty, .inl (cT, 256, .inl (f))), (hba, .inr (1, [.ref hby, .int (nI kb)])), (hby, .inl (cB, 256, .inl (fb))), (hpi, .inl (cP, np, .inl (fp)))]) [4, 0, 1, 2, 3, 5] rfl
      have hD9 := hD.sub (ws' := [(h0, .inr (2, [.ref hba, .ref hta, .ref hpi, .int (nI a2_2)])), (hta, .inr (1, [.ref hty, .int (nI k)])), (hty, .inl (cT, 256, .inl (f))), (hba, .inr (1, [.ref hby, .int (nI kb)])), (hby, .inl (cB, 256, .inl (fb))), (hpi, .inl (cP, np, .inl (fp)))]) [4, 0, 1, 2, 3, 5] (by decide) rfl
      have hK9 := hK.sub (tys' := [(cT, .byte), (cB, .byte), (cP, .byte)]) [0, 1, 2] rfl
      exact W.zret (v := 0) (ty := .boolean) hx hb hr rfl (fun t ht hW => ⟨⟨0, (), rfl, (by rw [show cpc S Bs T a cn = none from by first | exact cpc_0 hq9 | exact cpc_1 hq9 hcc]; rfl), a2_2, k, f, T, ⟨⟨htt, hk, ha2⟩, cmR_n (by first | exact cpc_0 hq9 | exact cpc_1 hq9 hcc)⟩, by rw [ht]; exact hP9, va_K.moved hW.alike hK9, hD9⟩, hS.F ht⟩) hS.2.2 d_M_copy_23
set_option maxHeartbeats 4000000 in
set_option maxRecDepth 100000 in
theorem g_obey (l : Launch) (dC : Nat → ClassId) (dI : Nat → Nat → Nat) (sz : Nat) (h0 : Nat) (hba : Nat) (hta : Nat) (hpi : Nat) (hty : Nat) (cT : ClassId) (k : Nat) (T : List Int32) (hby : Nat) (cB : ClassId) (kb : Nat) (fb : Nat → Int32) (Bs : List Int32) (cP : ClassId) (np : Nat) (fp : Nat → Int32) (S : List Int32) (a : Nat) (f : Nat → Int32) (htt : tx T k f) (htb : tx Bs kb fb) (hs9 : tx S np fp) (hk : k ≤ 256) (hkb : kb ≤ 256) (hn : np ≤ 16384) (ha : a ≤ np) : Met l y_M_obeyCommand k_M_obeyCommand ({ frames := 2, cells := 0, slots := 0, locals := 46 } : Room) (va_Pc [.ref h0] (pc_E (dC, dI) [(h0, .inr (2, [.ref hba, .ref hta, .ref hpi, .int (nI a)])), (hta, .inr (1, [.ref hty, .int (nI k)])), (hty, .inl (cT, 256, .inl (f))), (hba, .inr (1, [.ref hby, .int (nI kb)])), (hby, .inl (cB, 256, .inl (fb))), (hpi, .inl (cP, np, .inl (fp)))] [(cT, .byte), (cB, .byte), (cP, .byte)] sz)) (va_Qi (fun (r : Int32) (_ : Unit) => r = bI (cmd S Bs T a).isSome) (fun (_ : Unit) t => ∃ (a2 : Nat) (k2 : Nat) (f2 : Nat → Int32) (T2 : List Int32), ((tx T2 k2 f2 ∧ k2 ≤ 256 ∧ a2 ≤ np) ∧ cmR (cmd S Bs T a) T2 a2) ∧ at_E (dC, dI) (va_A [(h0, .inr (2, [.ref hba, .ref hta, .ref hpi, .int (nI a)])), (hta, .inr (1, [.ref hty, .int (nI k)])), (hty, .inl (cT, 256, .inl (f))), (hba, .inr (1, [.ref hby, .int (nI kb)])), (hby, .inl (cB, 256, .inl (fb))), (hpi, .inl (cP, np, .inl (fp)))] sz) [(h0, .inr (2, [.ref hba, .ref hta, .ref hpi, .int (nI a2)])), (hta, .inr (1, [.ref hty, .int (nI k2)])), (hty, .inl (cT, 256, .inl (f2))), (hba, .inr (1, [.ref hby, .int (nI kb)])), (hby, .inl (cB, 256, .inl (fb))), (hpi, .inl (cP, np, .inl (fp)))] [(cT, .byte), (cB, .byte), (cP, .byte)] t) (va_A [(h0, .inr (2, [.ref hba, .ref hta, .ref hpi, .int (nI a)])), (hta, .inr (1, [.ref hty, .int (nI k)])), (hty, .inl (cT, 256, .inl (f))), (hba, .inr (1, [.ref hby, .int (nI kb)])), (hby, .inl (cB, 256, .inl (fb))), (hpi, .inl (cP, np, .inl (fp)))] sz)) 0 0 (va_A [(h0, .inr (2, [.ref hba, .ref hta, .ref hpi, .int (nI a)])), (hta, .inr (1, [.ref hty, .int (nI k)])), (hty, .inl (cT, 256, .inl (f))), (hba, .inr (1, [.ref hby, .int (nI kb)])), (hby, .inl (cB, 256, .inl (fb))), (hpi, .inl (cP, np, .inl (fp)))] sz) := by
  refine Met.ofW (cc := prog_3_method_5_code) (maxL := 3) (ret := (some .boolean)) (by decide) rfl ?_
  intro p e s m args below meth c s₁ B hml hv
  obtain ⟨rfl, hsz, hP, hK, hD0, hN⟩ := hv
  have hx := B.exec
  have hb := B.bytes
  have hr := B.returns
  have hts := atoms_spec (ws := k_M_obeyCommand) B.pre
  have hw0 : ∀ w ∈ w0, w.before _ s = true := fun w h => hts w (List.mem_cons_of_mem _ h)
  have hown : s.vm.findClass R_M = some m.cls := findClass_of_methodNamed B.named
  have hlocks := B.notSynchronized
  subst hsz
  have hD := hD0.self (sz := s.heap.size)
  generalize hAe : va_A [(h0, .inr (2, [.ref hba, .ref hta, .ref hpi, .int (nI a)])), (hta, .inr (1, [.ref hty, .int (nI k)])), (hty, .inl (cT, 256, .inl (f))), (hba, .inr (1, [.ref hby, .int (nI kb)])), (hby, .inl (cB, 256, .inl (fb))), (hpi, .inl (cP, np, .inl (fp)))] s.heap.size = A at hD ⊢
  have hA : ∀ q : Nat, s.heap.size ≤ q → A q := fun q h => by rw [← hAe]; exact Or.inr h
  have hS : va_S A s.heap s.heap [] := va_S.rf
  have hP : va_P (dC, dI) vwCl [(h0, .inr (2, [.ref hba, .ref hta, .ref hpi, .int (nI a)])), (hta, .inr (1, [.ref hty, .int (nI k)])), (hty, .inl (cT, 256, .inl (f))), (hba, .inr (1, [.ref hby, .int (nI kb)])), (hby, .inl (cB, 256, .inl (fb))), (hpi, .inl (cP, np, .inl (fp)))] s.heap := hP
  have hl := lv_entry ([.ref h0]) (n := 3) (Nat.le_of_ble_eq_true rfl)
  rw [lg_entry_eq]
  generalize (lg_sl ([.ref h0]) ++ List.replicate (3 - (lg_sl ([.ref h0])).length) Slot.unset).toArray = ls at hl ⊢
  have hl : lv_has ls 3 [(0, .ref h0)] := hl
  refine lv_aload_n hx hb d_M_obeyCommand_0 rfl (lv_at hl 0 rfl) ?_
  have hPc := hP.sub (ws' := [(h0, .inr (2, [.ref hba, .ref hta, .ref hpi, .int (nI a)])), (hpi, .inl (cP, np, .inl ((fp))))]) [0, 5] rfl
  have hKc := hK.sub (tys' := [(cP, .byte)]) [2] rfl
  have hDc := hD.sub (ws' := [(h0, .inr (2, [.ref hba, .ref hta, .ref hpi, .int (nI a)])), (hpi, .inl (cP, np, .inl ((fp))))]) [0, 5] (by decide) rfl
  have hFc := va_free (wc := [(h0, .inr (2, [.ref hba, .ref hta, .ref hpi, .int (nI a)])), (hpi, .inl (cP, np, .inl ((fp))))]) hD hS hA [0, 5] rfl
  refine va_calli (va_runV (As := []) (rest := []) ⟨hx, hb, hml, hown, hw0⟩ (g_readNumber l dC dI s.heap.size h0 (.ref hba) (.ref hta) hpi cP np (fp) _ a (by first | assumption | decide | omega) (by first | assumption | decide | omega) (by first | assumption | decide | omega)) (cwV 0 hw0 (gd_Vm wm_267 wm_268 wm_269 wm_169 wm_270) rfl rfl rfl (by decide +kernel) ⟨by decide +kernel, by decide +kernel⟩) (prV_E hPc hKc hDc hN (va_recv hKc hPc (ci := 2) (q0 := 0) rfl rfl)) rfl rfl hl.1 rfl (lv_room (Nat.le_of_ble_eq_true rfl)) d_M_obeyCommand_1 ⟨by decide +kernel, by decide +kernel⟩) hS (fun q _ h => hFc q h) hFc (fun r_1 u t H1 locs ht hvm hw hB hz1 hk1 hS => ?_)
  obtain ⟨a2_2, hu_3, hP1, hK1, hD1⟩ := hB
  rw [ht] at hP1
  have hK1 := va_K.moved hvm.symm hK1
  try dsimp only at hw
  obtain ⟨hP, hD⟩ := va_join (wr := [(hta, .inr (1, [.ref hty, .int (nI k)])), (hty, .inl (cT, 256, .inl (f))), (hba, .inr (1, [.ref hby, .int (nI kb)])), (hby, .inl (cB, 256, .inl (fb)))]) (w1 := [(h0, .inr (2, [.ref hba, .ref hta, .ref hpi, .int (nI a2_2)])), (hpi, .inl (cP, np, .inl ((fp))))]) hP hD [0, 5] [1, 2, 3, 4] rfl rfl (by decide) (by decide) hk1 hFc hP1 hD1
  generalize H1 = H at hP hS ⊢
  replace hP : va_P (dC, dI) vwCl [(hta, .inr (1, [.ref hty, .int (nI k)])), (hty, .inl (cT, 256, .inl (f))), (hba, .inr (1, [.ref hby, .int (nI kb)])), (hby, .inl (cB, 256, .inl (fb))), (h0, .inr (2, [.ref hba, .ref hta, .ref hpi, .int (nI a2_2)])), (hpi, .inl (cP, np, .inl ((fp))))] H := hP
  replace hD : va_D A [(hta, .inr (1, [.ref hty, .int (nI k)])), (hty, .inl (cT, 256, .inl (f))), (hba, .inr (1, [.ref hby, .int (nI kb)])), (hby, .inl (cB, 256, .inl (fb))), (h0, .inr (2, [.ref hba, .ref hta, .ref hpi, .int (nI a2_2)])), (hpi, .inl (cP, np, .inl ((fp))))] := hD
  replace hK : va_K (dC, dI) vwCl [(cT, .byte), (cB, .byte), (cP, .byte)] s := hK
  have hw_4 := hw
  rcases hq9 : (rd S a).1 with _ | hv
  · rw [hq9] at hw_4; obtain rfl : r_1 = -1 := hw_4; have ha2 : a2_2 ≤ np := (by have h8 := rd_le (S := S) (a := a) (by rw [hs9.1]; exact ha); rw [hs9.1] at h8; omega)
    refine lv_istore_n (lv' := [(1, .int (-1)), (0, .ref h0)]) hx hb d_M_obeyCommand_4 rfl hl (by decide) rfl (fun ls hl => ?_)
    refine lv_iload_n hx hb d_M_obeyCommand_5 rfl (lv_at hl 0 rfl) ?_
    refine lv_iconst (v := 2) hx hb d_M_obeyCommand_6 (by decide) ?_
    refine lv_idiv hx hb d_M_obeyCommand_7 (by decide +kernel) ?_
    refine lv_topi (fun x_5 ex_5 => ?_)
    obtain rfl : x_5 = 0 := ex_5.trans (by decide +kernel)
    clear ex_5
    refine lv_istore_n (lv' := [(2, .int 0), (1, .int (-1)), (0, .ref h0)]) hx hb d_M_obeyCommand_8 rfl hl (by decide) rfl (fun ls hl => ?_)
    refine lv_iload_n hx hb d_M_obeyCommand_9 rfl (lv_at hl 1 rfl) ?_
    refine lv_if_lt (tgt := 28) hx hb d_M_obeyCommand_10 (by decide) (fun _ => ?_) (fun h9 => absurd h9 (by decide +kernel))
    refine lv_iconst (v := 0) hx hb d_M_obeyCommand_28 (by decide) ?_
    have hP9 := hP.sub (ws' := [(h0, .inr (2, [.ref hba, .ref hta, .ref hpi, .int (nI a2_2)])), (hta, .inr (1, [.ref hty, .int (nI k)])), (hty, .inl (cT, 256, .inl (f))), (hba, .inr (1, [.ref hby, .int (nI kb)])), (hby, .inl (cB, 256, .inl (fb))), (hpi, .inl (cP, np, .inl (fp)))]) [4, 0, 1, 2, 3, 5] rfl
    have hD9 := hD.sub (ws' := [(h0, .inr (2, [.ref hba, .ref hta, .ref hpi, .int (nI a2_2)])), (hta, .inr (1, [.ref hty, .int (nI k)])), (hty, .inl (cT, 256, .inl (f))), (hba, .inr (1, [.ref hby, .int (nI kb)])), (hby, .inl (cB, 256, .inl (fb))), (hpi, .inl (cP, np, .inl (fp)))]) [4, 0, 1, 2, 3, 5] (by decide) rfl
    have hK9 := hK.sub (tys' := [(cT, .byte), (cB, .byte), (cP, .byte)]) [0, 1, 2] rfl
    exact W.zret (v := 0) (ty := .boolean) hx hb hr rfl (fun t ht hW => ⟨⟨0, (), rfl, (by rw [(show cmd S Bs T a = none from by first | exact cmd_0 hq9 | exact cmd_1 hq9 (Or.inl hz9) | exact cmd_1 hq9 (Or.inr hro9))]; rfl), a2_2, k, f, T, ⟨⟨htt, hk, ha2⟩, cmR_n (show cmd S Bs T a = none from by first | exact cmd_0 hq9 | exact cmd_1 hq9 (Or.inl hz9) | exact cmd_1 hq9 (Or.inr hro9))⟩, by rw [ht]; exact hP9, va_K.moved hW.alike hK9, hD9⟩, hS.F ht⟩) hS.2.2 d_M_obeyCommand_29
  · rw [hq9] at hw_4; obtain rfl : r_1 = nI hv := hw_4; have ha2 : a2_2 ≤ np := (by have h8 := rd_le (S := S) (a := a) (by rw [hs9.1]; exact ha); rw [hs9.1] at h8; omega); have hd9 := (rd_some hq9).1
    refine lv_istore_n (lv' := [(1, .int (nI hv)), (0, .ref h0)]) hx hb d_M_obeyCommand_4 rfl hl (by decide) rfl (fun ls hl => ?_)
    refine lv_iload_n hx hb d_M_obeyCommand_5 rfl (lv_at hl 0 rfl) ?_
    refine lv_iconst (v := 2) hx hb d_M_obeyCommand_6 (by decide) ?_
    refine lv_idiv hx hb d_M_obeyCommand_7 (by decide +kernel) ?_
    refine lv_topi (fun x_6 ex_6 => ?_)
    obtain rfl : x_6 = (nI (hv / 2)) := by rw [ex_6]; exact (show nI hv / nI 2 = nI (hv / 2) from pk_div (by omega) (by decide) (by decide))
    clear ex_6
    refine lv_istore_n (lv' := [(2, .int (nI (hv / 2))), (1, .int (nI hv)), (0, .ref h0)]) hx hb d_M_obeyCommand_8 rfl hl (by decide) rfl (fun ls hl => ?_)
    refine lv_iload_n hx hb d_M_obeyCommand_9 rfl (lv_at hl 1 rfl) ?_
    refine lv_if_lt (tgt := 28) hx hb d_M_obeyCommand_10 (by decide) (fun c_7 => absurd c_7 (nI_pos (by omega))) (fun c_7 => ?_)
    refine lv_iload_n hx hb d_M_obeyCommand_13 rfl (lv_at hl 0 rfl) ?_
    refine lv_if_eq (tgt := 28) hx hb d_M_obeyCommand_14 (by decide) (fun c_8 => ?_) (fun c_8 => ?_)
    · have hz9 : hv / 2 = 0 := (by rcases Nat.eq_zero_or_pos (hv / 2) with z | z; exact z; exact absurd c_8 (nI_ne0 z (by omega)))
      refine lv_iconst (v := 0) hx hb d_M_obeyCommand_28 (by decide) ?_
      have hP9 := hP.sub (ws' := [(h0, .inr (2, [.ref hba, .ref hta, .ref hpi, .int (nI a2_2)])), (hta, .inr (1, [.ref hty, .int (nI k)])), (hty, .inl (cT, 256, .inl (f))), (hba, .inr (1, [.ref hby, .int (nI kb)])), (hby, .inl (cB, 256, .inl (fb))), (hpi, .inl (cP, np, .inl (fp)))]) [4, 0, 1, 2, 3, 5] rfl
      have hD9 := hD.sub (ws' := [(h0, .inr (2, [.ref hba, .ref hta, .ref hpi, .int (nI a2_2)])), (hta, .inr (1, [.ref hty, .int (nI k)])), (hty, .inl (cT, 256, .inl (f))), (hba, .inr (1, [.ref hby, .int (nI kb)])), (hby, .inl (cB, 256, .inl (fb))), (hpi, .inl (cP, np, .inl (fp)))]) [4, 0, 1, 2, 3, 5] (by decide) rfl
      have hK9 := hK.sub (tys' := [(cT, .byte), (cB, .byte), (cP, .byte)]) [0, 1, 2] rfl
      exact W.zret (v := 0) (ty := .boolean) hx hb hr rfl (fun t ht hW => ⟨⟨0, (), rfl, (by rw [(show cmd S Bs T a = none from by first | exact cmd_0 hq9 | exact cmd_1 hq9 (Or.inl hz9) | exact cmd_1 hq9 (Or.inr hro9))]; rfl), a2_2, k, f, T, ⟨⟨htt, hk, ha2⟩, cmR_n (show cmd S Bs T a = none from by first | exact cmd_0 hq9 | exact cmd_1 hq9 (Or.inl hz9) | exact cmd_1 hq9 (Or.inr hro9))⟩, by rw [ht]; exact hP9, va_K.moved hW.alike hK9, hD9⟩, hS.F ht⟩) hS.2.2 d_M_obeyCommand_29
    · have hz8 : ¬ hv / 2 = 0 := (fun z => c_8 (by rw [z]; rfl))
      refine lv_aload_n hx hb d_M_obeyCommand_17 rfl (lv_at hl 2 rfl) ?_
      refine va_get (D := (dC, dI)) (ci := 2) (v := .ref hta) (C := R_M) (T := F_M) (N := 4) hx hb hw0 in_M hown hK hP 4 rfl rfl 1 (by decide) (hw0 (.fieldLink R_M 18 "TextKeeper$Maker" "text" "LTextKeeper$Text;") wm_156) (fun _ h9 => h9) rfl d_M_obeyCommand_18 ?_
      refine lv_iload_n hx hb d_M_obeyCommand_21 rfl (lv_at hl 0 rfl) ?_
      have hPc := hP.sub (ws' := [(hta, .inr (1, [.ref hty, .int (nI k)]))]) [0] rfl
      have hKc := hK.sub (tys' := []) [] rfl
      refine ps_i (va_runV (As := [.int (nI (hv / 2))]) (rest := []) ⟨hx, hb, hml, hown, hw0⟩ (g_hasRoom l dC dI hta (.ref hty) k (hv / 2) (by first | assumption | decide | omega) (by first | assumption | decide | omega)) (cwV 1 hw0 (gd_Vm wm_271 wm_272 wm_273 wm_151 wm_274) rfl rfl rfl (by decide +kernel) ⟨by decide +kernel, by decide +kernel⟩) (prV_R hPc hKc hN (va_recv hKc hPc (ci := 1) (q0 := 0) rfl rfl)) rfl rfl hl.1 rfl (lv_room (Nat.le_of_ble_eq_true rfl)) d_M_obeyCommand_22 ⟨by decide +kernel, by decide +kernel⟩) (fun r_9 hr_9 => ?_)
      obtain rfl : r_9 = (bI (decide ((hv / 2) + k ≤ 256))) := hr_9
      refine lv_if_ne (tgt := 30) hx hb d_M_obeyCommand_25 (by decide) (fun c_10 => ?_) (fun c_10 => ?_)
      · have hro : hv / 2 + k ≤ 256 := bI_ne c_10
        refine lv_iload_n hx hb d_M_obeyCommand_30 rfl (lv_at hl 1 rfl) ?_
        refine lv_iconst (v := 2) hx hb d_M_obeyCommand_31 (by decide) ?_
        refine lv_irem hx hb d_M_obeyCommand_32 (by decide +kernel) ?_
        refine lv_topi (fun x_11 ex_11 => ?_)
        obtain rfl : x_11 = (nI (hv % 2)) := by rw [ex_11]; exact (show nI hv - nI hv / nI 2 * nI 2 = nI (hv % 2) from pk_rem (by omega) (by decide) (by decide))
        clear ex_11
        refine lv_if_ne (tgt := 44) hx hb d_M_obeyCommand_33 (by decide) (fun c_12 => ?_) (fun c_12 => ?_)
        · have hod : ¬ hv % 2 = 0 := (fun z => c_12 (by rw [z]; rfl))
          refine lv_aload_n hx hb d_M_obeyCommand_44 rfl (lv_at hl 2 rfl) ?_
          refine lv_iload_n hx hb d_M_obeyCommand_45 rfl (lv_at hl 0 rfl) ?_
          have hPc := hP.sub (ws' := [(h0, .inr (2, [.ref hba, .ref hta, .ref hpi, .int (nI a2_2)])), (hta, .inr (1, [.ref hty, .int (nI k)])), (hty, .inl (cT, 256, .inl ((f)))), (hba, .inr (1, [.ref hby, .int (nI kb)])), (hby, .inl (cB, 256, .inl ((fb)))), (hpi, .inl (cP, np, .inl (((fp)))))]) [4, 0, 1, 2, 3, 5] rfl
          have hKc := hK.sub (tys' := [(cT, .byte), (cB, .byte), (cP, .byte)]) [0, 1, 2] rfl
          have hDc := hD.sub (ws' := [(h0, .inr (2, [.ref hba, .ref hta, .ref hpi, .int (nI a2_2)])), (hta, .inr (1, [.ref hty, .int (nI k)])), (hty, .inl (cT, 256, .inl ((f)))), (hba, .inr (1, [.ref hby, .int (nI kb)])), (hby, .inl (cB, 256, .inl ((fb)))), (hpi, .inl (cP, np, .inl (((fp)))))]) [4, 0, 1, 2, 3, 5] (by decide) rfl
          have hFc := va_free (wc := [(h0, .inr (2, [.ref hba, .ref hta, .ref hpi, .int (nI a2_2)])), (hta, .inr (1, [.ref hty, .int (nI k)])), (hty, .inl (cT, 256, .inl ((f)))), (hba, .inr (1, [.ref hby, .int (nI kb)])), (hby, .inl (cB, 256, .inl ((fb)))), (hpi, .inl (cP, np, .inl (((fp)))))]) hD hS hA [4, 0, 1, 2, 3, 5] rfl
          refine va_calli (va_runV (As := [.int (nI (hv / 2))]) (rest := []) ⟨hx, hb, hml, hown, hw0⟩ (g_copy l dC dI H.size h0 hba hta hpi hty cT k _ hby cB kb (fb) _ cP np ((fp)) _ a2_2 (f) (hv / 2) (by first | assumption | decide | omega) (by first | assumption | decide | omega) (by first | assumption | decide | omega) (by first | assumption | decide | omega) (by first | assumption | decide | omega) (by first | assumption | decide | omega) (by first | assumption | decide | omega) (by first | assumption | decide | omega)) (cwV 1 hw0 (gd_Vm wm_275 wm_276 wm_277 wm_169 wm_278) rfl rfl rfl (by decide +kernel) ⟨by decide +kernel, by decide +kernel⟩) (prV_E hPc hKc hDc hN (va_recv hKc hPc (ci := 2) (q0 := 0) rfl rfl)) rfl rfl hl.1 rfl (lv_room (Nat.le_of_ble_eq_true rfl)) d_M_obeyCommand_46 ⟨by decide +kernel, by decide +kernel⟩) hS (fun q _ h => hFc q h) hFc (fun r_13 u t H1 locs ht hvm hw hB hz1 hk1 hS => ?_)
          obtain ⟨a2_14, k2_15, f2_16, T2_17, ⟨hu_18_0, hu_18_1⟩, hP1, hK1, hD1⟩ := hB
          rw [ht] at hP1
          have hK1 := va_K.moved hvm.symm hK1
          try dsimp only at hw
          obtain ⟨hP, hD⟩ := va_join (wr := []) (w1 := [(h0, .inr (2, [.ref hba, .ref hta, .ref hpi, .int (nI a2_14)])), (hta, .inr (1, [.ref hty, .int (nI k2_15)])), (hty, .inl (cT, 256, .inl (f2_16))), (hba, .inr (1, [.ref hby, .int (nI kb)])), (hby, .inl (cB, 256, .inl ((fb)))), (hpi, .inl (cP, np, .inl (((fp)))))]) hP hD [4, 0, 1, 2, 3, 5] [] rfl rfl (by decide) (by decide) hk1 hFc hP1 hD1
          generalize H1 = H at hP hS ⊢
          replace hP : va_P (dC, dI) vwCl [(h0, .inr (2, [.ref hba, .ref hta, .ref hpi, .int (nI a2_14)])), (hta, .inr (1, [.ref hty, .int (nI k2_15)])), (hty, .inl (cT, 256, .inl (f2_16))), (hba, .inr (1, [.ref hby, .int (nI kb)])), (hby, .inl (cB, 256, .inl ((fb)))), (hpi, .inl (cP, np, .inl (((fp)))))] H := hP
          replace hD : va_D A [(h0, .inr (2, [.ref hba, .ref hta, .ref hpi, .int (nI a2_14)])), (hta, .inr (1, [.ref hty, .int (nI k2_15)])), (hty, .inl (cT, 256, .inl (f2_16))), (hba, .inr (1, [.ref hby, .int (nI kb)])), (hby, .inl (cB, 256, .inl ((fb)))), (hpi, .inl (cP, np, .inl (((fp)))))] := hD
          replace hK : va_K (dC, dI) vwCl [(cT, .byte), (cB, .byte), (cP, .byte)] s := hK
          have hw_19 := hw
          · obtain rfl : r_13 = bI (cmd S Bs T a).isSome := (by rw [cmd_5 hq9 (by rw [htt.1]; omega) hod, ← hu_3]; exact hw_19)
            have hP9 := hP.sub (ws' := [(h0, .inr (2, [.ref hba, .ref hta, .ref hpi, .int (nI a2_14)])), (hta, .inr (1, [.ref hty, .int (nI k2_15)])), (hty, .inl (cT, 256, .inl (f2_16))), (hba, .inr (1, [.ref hby, .int (nI kb)])), (hby, .inl (cB, 256, .inl (fb))), (hpi, .inl (cP, np, .inl (fp)))]) [0, 1, 2, 3, 4, 5] rfl
            have hD9 := hD.sub (ws' := [(h0, .inr (2, [.ref hba, .ref hta, .ref hpi, .int (nI a2_14)])), (hta, .inr (1, [.ref hty, .int (nI k2_15)])), (hty, .inl (cT, 256, .inl (f2_16))), (hba, .inr (1, [.ref hby, .int (nI kb)])), (hby, .inl (cB, 256, .inl (fb))), (hpi, .inl (cP, np, .inl (fp)))]) [0, 1, 2, 3, 4, 5] (by decide) rfl
            have hK9 := hK.sub (tys' := [(cT, .byte), (cB, .byte), (cP, .byte)]) [0, 1, 2] rfl
            exact W.zret (v := (bI (cmd S Bs T a).isSome)) (ty := .boolean) hx hb hr (nar_bI _) (fun t ht hW => ⟨⟨(bI (cmd S Bs T a).isSome), (), rfl, rfl, a2_14, k2_15, f2_16, T2_17, ⟨hu_18_0, (by rw [cmd_5 hq9 (by rw [htt.1]; omega) hod, ← hu_3]; exact hu_18_1)⟩, by rw [ht]; exact hP9, va_K.moved hW.alike hK9, hD9⟩, hS.F ht⟩) hS.2.2 d_M_obeyCommand_49
        · have hev : hv % 2 = 0 := (by rcases Nat.eq_zero_or_pos (hv % 2) with z | z; exact z; exact absurd c_12 (nI_ne0 z (by omega)))
          refine lv_aload_n hx hb d_M_obeyCommand_36 rfl (lv_at hl 2 rfl) ?_
          refine lv_iload_n hx hb d_M_obeyCommand_37 rfl (lv_at hl 0 rfl) ?_
          have hPc := hP.sub (ws' := [(h0, .inr (2, [.ref hba, .ref hta, .ref hpi, .int (nI a2_2)])), (hta, .inr (1, [.ref hty, .int (nI k)])), (hty, .inl (cT, 256, .inl ((f)))), (hba, .inr (1, [.ref hby, .int (nI kb)])), (hby, .inl (cB, 256, .inl ((fb)))), (hpi, .inl (cP, np, .inl (((fp)))))]) [4, 0, 1, 2, 3, 5] rfl
          have hKc := hK.sub (tys' := [(cT, .byte), (cB, .byte), (cP, .byte)]) [0, 1, 2] rfl
          have hDc := hD.sub (ws' := [(h0, .inr (2, [.ref hba, .ref hta, .ref hpi, .int (nI a2_2)])), (hta, .inr (1, [.ref hty, .int (nI k)])), (hty, .inl (cT, 256, .inl ((f)))), (hba, .inr (1, [.ref hby, .int (nI kb)])), (hby, .inl (cB, 256, .inl ((fb)))), (hpi, .inl (cP, np, .inl (((fp)))))]) [4, 0, 1, 2, 3, 5] (by decide) rfl
          have hFc := va_free (wc := [(h0, .inr (2, [.ref hba, .ref hta, .ref hpi, .int (nI a2_2)])), (hta, .inr (1, [.ref hty, .int (nI k)])), (hty, .inl (cT, 256, .inl ((f)))), (hba, .inr (1, [.ref hby, .int (nI kb)])), (hby, .inl (cB, 256, .inl ((fb)))), (hpi, .inl (cP, np, .inl (((fp)))))]) hD hS hA [4, 0, 1, 2, 3, 5] rfl
          refine va_calli (va_runV (As := [.int (nI (hv / 2))]) (rest := []) ⟨hx, hb, hml, hown, hw0⟩ (g_insert l dC dI H.size h0 hba hta hpi hty cT k _ hby cB kb (fb) _ cP np ((fp)) _ a2_2 (f) (hv / 2) (by first | assumption | decide | omega) (by first | assumption | decide | omega) (by first | assumption | decide | omega) (by first | assumption | decide | omega) (by first | assumption | decide | omega) (by first | assumption | decide | omega) (by first | assumption | decide | omega) (by first | assumption | decide | omega)) (cwV 1 hw0 (gd_Vm wm_279 wm_280 wm_281 wm_169 wm_282) rfl rfl rfl (by decide +kernel) ⟨by decide +kernel, by decide +kernel⟩) (prV_E hPc hKc hDc hN (va_recv hKc hPc (ci := 2) (q0 := 0) rfl rfl)) rfl rfl hl.1 rfl (lv_room (Nat.le_of_ble_eq_true rfl)) d_M_obeyCommand_38 ⟨by decide +kernel, by decide +kernel⟩) hS (fun q _ h => hFc q h) hFc (fun r_20 u t H1 locs ht hvm hw hB hz1 hk1 hS => ?_)
          obtain ⟨a2_21, k2_22, f2_23, T2_24, ⟨hu_25_0, hu_25_1⟩, hP1, hK1, hD1⟩ := hB
          rw [ht] at hP1
          have hK1 := va_K.moved hvm.symm hK1
          try dsimp only at hw
          obtain ⟨hP, hD⟩ := va_join (wr := []) (w1 := [(h0, .inr (2, [.ref hba, .ref hta, .ref hpi, .int (nI a2_21)])), (hta, .inr (1, [.ref hty, .int (nI k2_22)])), (hty, .inl (cT, 256, .inl (f2_23))), (hba, .inr (1, [.ref hby, .int (nI kb)])), (hby, .inl (cB, 256, .inl ((fb)))), (hpi, .inl (cP, np, .inl (((fp)))))]) hP hD [4, 0, 1, 2, 3, 5] [] rfl rfl (by decide) (by decide) hk1 hFc hP1 hD1
          generalize H1 = H at hP hS ⊢
          replace hP : va_P (dC, dI) vwCl [(h0, .inr (2, [.ref hba, .ref hta, .ref hpi, .int (nI a2_21)])), (hta, .inr (1, [.ref hty, .int (nI k2_22)])), (hty, .inl (cT, 256, .inl (f2_23))), (hba, .inr (1, [.ref hby, .int (nI kb)])), (hby, .inl (cB, 256, .inl ((fb)))), (hpi, .inl (cP, np, .inl (((fp)))))] H := hP
          replace hD : va_D A [(h0, .inr (2, [.ref hba, .ref hta, .ref hpi, .int (nI a2_21)])), (hta, .inr (1, [.ref hty, .int (nI k2_22)])), (hty, .inl (cT, 256, .inl (f2_23))), (hba, .inr (1, [.ref hby, .int (nI kb)])), (hby, .inl (cB, 256, .inl ((fb)))), (hpi, .inl (cP, np, .inl (((fp)))))] := hD
          replace hK : va_K (dC, dI) vwCl [(cT, .byte), (cB, .byte), (cP, .byte)] s := hK
          have hw_26 := hw
          · obtain rfl : r_20 = bI (cmd S Bs T a).isSome := (by rw [cmd_2 hq9 (by rw [htt.1]; omega) hev, ← hu_3]; exact hw_26)
            refine lv_goto (tgt := 49) hx hb d_M_obeyCommand_41 (by decide) ?_
            have hP9 := hP.sub (ws' := [(h0, .inr (2, [.ref hba, .ref hta, .ref hpi, .int (nI a2_21)])), (hta, .inr (1, [.ref hty, .int (nI k2_22)])), (hty, .inl (cT, 256, .inl (f2_23))), (hba, .inr (1, [.ref hby, .int (nI kb)])), (hby, .inl (cB, 256, .inl (fb))), (hpi, .inl (cP, np, .inl (fp)))]) [0, 1, 2, 3, 4, 5] rfl
            have hD9 := hD.sub (ws' := [(h0, .inr (2, [.ref hba, .ref hta, .ref hpi, .int (nI a2_21)])), (hta, .inr (1, [.ref hty, .int (nI k2_22)])), (hty, .inl (cT, 256, .inl (f2_23))), (hba, .inr (1, [.ref hby, .int (nI kb)])), (hby, .inl (cB, 256, .inl (fb))), (hpi, .inl (cP, np, .inl (fp)))]) [0, 1, 2, 3, 4, 5] (by decide) rfl
            have hK9 := hK.sub (tys' := [(cT, .byte), (cB, .byte), (cP, .byte)]) [0, 1, 2] rfl
            exact W.zret (v := (bI (cmd S Bs T a).isSome)) (ty := .boolean) hx hb hr (nar_bI _) (fun t ht hW => ⟨⟨(bI (cmd S Bs T a).isSome), (), rfl, rfl, a2_21, k2_22, f2_23, T2_24, ⟨hu_25_0, (by rw [cmd_2 hq9 (by rw [htt.1]; omega) hev, ← hu_3]; exact hu_25_1)⟩, by rw [ht]; exact hP9, va_K.moved hW.alike hK9, hD9⟩, hS.F ht⟩) hS.2.2 d_M_obeyCommand_49
      · have hro9 : 256 < T.length + hv / 2 := (by have h8 := bI_e0 c_10; rw [htt.1]; omega)
        refine lv_iconst (v := 0) hx hb d_M_obeyCommand_28 (by decide) ?_
        have hP9 := hP.sub (ws' := [(h0, .inr (2, [.ref hba, .ref hta, .ref hpi, .int (nI a2_2)])), (hta, .inr (1, [.ref hty, .int (nI k)])), (hty, .inl (cT, 256, .inl (f))), (hba, .inr (1, [.ref hby, .int (nI kb)])), (hby, .inl (cB, 256, .inl (fb))), (hpi, .inl (cP, np, .inl (fp)))]) [4, 0, 1, 2, 3, 5] rfl
        have hD9 := hD.sub (ws' := [(h0, .inr (2, [.ref hba, .ref hta, .ref hpi, .int (nI a2_2)])), (hta, .inr (1, [.ref hty, .int (nI k)])), (hty, .inl (cT, 256, .inl (f))), (hba, .inr (1, [.ref hby, .int (nI kb)])), (hby, .inl (cB, 256, .inl (fb))), (hpi, .inl (cP, np, .inl (fp)))]) [4, 0, 1, 2, 3, 5] (by decide) rfl
        have hK9 := hK.sub (tys' := [(cT, .byte), (cB, .byte), (cP, .byte)]) [0, 1, 2] rfl
        exact W.zret (v := 0) (ty := .boolean) hx hb hr rfl (fun t ht hW => ⟨⟨0, (), rfl, (by rw [(show cmd S Bs T a = none from by first | exact cmd_0 hq9 | exact cmd_1 hq9 (Or.inl hz9) | exact cmd_1 hq9 (Or.inr hro9))]; rfl), a2_2, k, f, T, ⟨⟨htt, hk, ha2⟩, cmR_n (show cmd S Bs T a = none from by first | exact cmd_0 hq9 | exact cmd_1 hq9 (Or.inl hz9) | exact cmd_1 hq9 (Or.inr hro9))⟩, by rw [ht]; exact hP9, va_K.moved hW.alike hK9, hD9⟩, hS.F ht⟩) hS.2.2 d_M_obeyCommand_29
set_option maxHeartbeats 4000000 in
set_option maxRecDepth 100000 in
theorem lo_cmi {p : Program} {l : Launch} {e : Env} {s : State} {m : MethodId} {args : Array Value} {below : List Frame} {meth : Method} {c : Code} {dC : Nat → ClassId} {dI : Nat → Nat → Nat} {A : Nat → Prop} {Q : State → Prop} (h0 : Nat) (i_thrown : Int32) (i_down : Int32) (i_lasts : Int32) (v_buffer : Value) (i_size : Int32) (i_documents : Int32) (v_gone : Value) (v_first : Value) (v_many : Value) (v_lengths : Value) (v_authors : Value) (v_sums : Value) (v_text : Value) (i_textSize : Int32) (i_textSteps : Int32) (v_other : Value) (i_otherSize : Int32) (v_piece : Value) (i_pieceSize : Int32) (i_value : Int32) (hmade : Nat) (cM : ClassId) (k : Nat) (hbase : Nat) (cB : ClassId) (kb : Nat) (fb : Nat → Int32) (Bs : List Int32) (hrow : Nat) (cW : ClassId) (fr : Nat → Int32) (S : List Int32) (ab : Nat) (en : Nat) (b0 : Nat) (T : List Int32) (a : Nat) (cn : Nat) (pl : Nat) (htb : tx Bs kb fb) (hsx : sx S b0 fr) (hk : k ≤ 256) (hkb : kb ≤ 256) (hen : en = b0 + S.length) (hc : k + cn ≤ 256) (hpl : pl = b0 + a) (hac : a + cn ≤ S.length)
    (hx : p.tables.exec = Jvm.exec) (hb : c.code = prog_9_method_18_code) (hml : c.maxLocals = 5) (hown : s.vm.findClass R_O = some m.cls) (hw0 : ∀ w ∈ w0, w.before args s = true) (hN : nw_ok s) (hK : va_K (dC, dI) vwCl [(cM, .byte), (cB, .byte), (cW, .byte)] s) (hA : ∀ q : Nat, s.heap.size ≤ q → A q)
    (kk : ∀ (f : Nat → Int32), (tx (T ++ (S.drop a).take cn) (k + cn) f) → ∀ (H : Heap) (locs : List Loc), va_P (dC, dI) vwCl [(h0, .inr (7, [.int i_thrown, .int i_down, .int i_lasts, v_buffer, .int i_size, .int i_documents, v_gone, v_first, v_many, v_lengths, v_authors, v_sums, .ref hrow, .ref hmade, .int (nI (k + cn)), .ref hbase, .int (nI kb), v_text, .int i_textSize, .int i_textSteps, v_other, .int i_otherSize, v_piece, .int i_pieceSize, .int (nI ab), .int (nI en), .int i_value])), (hmade, .inl (cM, 256, .inl (f))), (hbase, .inl (cB, 256, .inl (fb))), (hrow, .inl (cW, 16384, .inl (fr)))] H → va_D A [(h0, .inr (7, [.int i_thrown, .int i_down, .int i_lasts, v_buffer, .int i_size, .int i_documents, v_gone, v_first, v_many, v_lengths, v_authors, v_sums, .ref hrow, .ref hmade, .int (nI (k + cn)), .ref hbase, .int (nI kb), v_text, .int i_textSize, .int i_textSteps, v_other, .int i_otherSize, v_piece, .int i_pieceSize, .int (nI ab), .int (nI en), .int i_value])), (hmade, .inl (cM, 256, .inl (f))), (hbase, .inl (cB, 256, .inl (fb))), (hrow, .inl (cW, 16384, .inl (fr)))] → va_S A s.heap H locs → ∀ ls : Array Slot, lv_has ls 5 [(4, .int (nI cn)), (0, .ref h0), (1, .int (nI cn)), (2, .int 0), (3, .int (nI pl))] → W p l e ({ frames := 1, cells := 0, slots := 0, locals := 22 } : Room) s m args below meth c H locs 0 0 Q (F0 m 159 ls [])) :
    ∀ (n j : Nat), j ≤ cn → cn < j + n → ∀ (f : Nat → Int32), (tx (T ++ (S.drop a).take j) (k + j) f) → ∀ (H : Heap) (locs : List Loc), va_P (dC, dI) vwCl [(h0, .inr (7, [.int i_thrown, .int i_down, .int i_lasts, v_buffer, .int i_size, .int i_documents, v_gone, v_first, v_many, v_lengths, v_authors, v_sums, .ref hrow, .ref hmade, .int (nI (k + j)), .ref hbase, .int (nI kb), v_text, .int i_textSize, .int i_textSteps, v_other, .int i_otherSize, v_piece, .int i_pieceSize, .int (nI ab), .int (nI en), .int i_value])), (hmade, .inl (cM, 256, .inl (f))), (hbase, .inl (cB, 256, .inl (fb))), (hrow, .inl (cW, 16384, .inl (fr)))] H → va_D A [(h0, .inr (7, [.int i_thrown, .int i_down, .int i_lasts, v_buffer, .int i_size, .int i_documents, v_gone, v_first, v_many, v_lengths, v_authors, v_sums, .ref hrow, .ref hmade, .int (nI (k + j)), .ref hbase, .int (nI kb), v_text, .int i_textSize, .int i_textSteps, v_other, .int i_otherSize, v_piece, .int i_pieceSize, .int (nI ab), .int (nI en), .int i_value])), (hmade, .inl (cM, 256, .inl (f))), (hbase, .inl (cB, 256, .inl (fb))), (hrow, .inl (cW, 16384, .inl (fr)))] → va_S A s.heap H locs → ∀ ls : Array Slot, lv_has ls 5 [(4, .int (nI j)), (0, .ref h0), (1, .int (nI cn)), (2, .int 0), (3, .int (nI pl))] → W p l e ({ frames := 1, cells := 0, slots := 0, locals := 22 } : Room) s m args below meth c H locs 0 0 Q (F0 m 103 ls []) := by
  intro n
  induction n with
  | zero => intro j h1 h2; exact absurd h2 (by omega)
  | succ n ih =>
    intro j hj hn f hf0 H locs hP hD hS ls hl
    refine lv_iload hx hb d_O_command_103 (lv_at hl 0 rfl) ?_
    refine lv_iload_n hx hb d_O_command_105 rfl (lv_at hl 2 rfl) ?_
    refine lv_icmp_ge (tgt := 159) hx hb d_O_command_106 (by decide) (fun c_1 => ?_) (fun c_1 => ?_)
    · obtain rfl : j = cn := x_geN (by omega) hj c_1
      exact kk f hf0 _ _ hP hD hS ls (lv_sub hl [0, 1, 2, 3, 4] rfl)
    · have hlt : j < cn := x_ltN (by omega) hj c_1; have hl9 := hsx.2.2
      refine lv_aload_n hx hb d_O_command_109 rfl (lv_at hl 1 rfl) ?_
      refine va_get (D := (dC, dI)) (ci := 7) (v := .ref hmade) (C := R_O) (T := F_O) (N := 27) hx hb hw0 in_O hown hK hP 0 rfl rfl 13 (by decide) (hw0 (.fieldLink R_O 41 "TextKeeperModel" "made" "[B") wm_248) (fun _ h9 => h9) rfl d_O_command_110 ?_
      refine lv_aload_n hx hb d_O_command_113 rfl (lv_at hl 1 rfl) ?_
      refine va_get (D := (dC, dI)) (ci := 7) (v := .int (nI (k + j))) (C := R_O) (T := F_O) (N := 27) hx hb hw0 in_O hown hK hP 0 rfl rfl 14 (by decide) (hw0 (.fieldLink R_O 113 "TextKeeperModel" "madeSize" "I") wm_246) (fun _ h9 => h9) rfl d_O_command_114 ?_
      refine lv_iload_n hx hb d_O_command_117 rfl (lv_at hl 3 rfl) ?_
      refine lv_if_eq (tgt := 133) hx hb d_O_command_118 (by decide) (fun _ => ?_) (fun h9 => absurd h9 (by decide +kernel))
      refine lv_aload_n hx hb d_O_command_133 rfl (lv_at hl 1 rfl) ?_
      refine va_get (D := (dC, dI)) (ci := 7) (v := .ref hrow) (C := R_O) (T := F_O) (N := 27) hx hb hw0 in_O hown hK hP 0 rfl rfl 12 (by decide) (hw0 (.fieldLink R_O 38 "TextKeeperModel" "row" "[B") wm_264) (fun _ h9 => h9) rfl d_O_command_134 ?_
      refine lv_iload_n hx hb d_O_command_137 rfl (lv_at hl 4 rfl) ?_
      refine lv_iload hx hb d_O_command_138 (lv_at hl 0 rfl) ?_
      refine lv_iadd hx hb d_O_command_140 ?_
      refine lv_topi (fun x_2 ex_2 => ?_)
      obtain rfl : x_2 = (nI (pl + j)) := by rw [ex_2]; exact nI_add pl j
      clear ex_2
      refine va_bald hx hb hK hP 3 2 rfl rfl (vp_in_nI (by omega) (by decide)) d_O_command_141 ?_
      refine lv_topi (fun x_3 ex_3 => ?_)
      refine va_bast hx hb hK hP hD hS 1 0 rfl rfl (vp_in_nI (by omega) (by decide)) d_O_command_142 (fun H locs hP hD hS => ?_)
      replace hP : va_P (dC, dI) vwCl [(h0, .inr (7, [.int i_thrown, .int i_down, .int i_lasts, v_buffer, .int i_size, .int i_documents, v_gone, v_first, v_many, v_lengths, v_authors, v_sums, .ref hrow, .ref hmade, .int (nI (k + j)), .ref hbase, .int (nI kb), v_text, .int i_textSize, .int i_textSteps, v_other, .int i_otherSize, v_piece, .int i_pieceSize, .int (nI ab), .int (nI en), .int i_value])), (hmade, .inl (cM, 256, .inl (upd (f) (Int32.toNatClampNeg (nI (k + j))) (vp_nar .byte (x_3))))), (hbase, .inl (cB, 256, .inl (fb))), (hrow, .inl (cW, 16384, .inl (fr)))] H := hP
      replace hD : va_D A [(h0, .inr (7, [.int i_thrown, .int i_down, .int i_lasts, v_buffer, .int i_size, .int i_documents, v_gone, v_first, v_many, v_lengths, v_authors, v_sums, .ref hrow, .ref hmade, .int (nI (k + j)), .ref hbase, .int (nI kb), v_text, .int i_textSize, .int i_textSteps, v_other, .int i_otherSize, v_piece, .int i_pieceSize, .int (nI ab), .int (nI en), .int i_value])), (hmade, .inl (cM, 256, .inl (upd (f) (Int32.toNatClampNeg (nI (k + j))) (vp_nar .byte (x_3))))), (hbase, .inl (cB, 256, .inl (fb))), (hrow, .inl (cW, 16384, .inl (fr)))] := hD
      have eS : upd (f) (Int32.toNatClampNeg (nI (k + j))) (vp_nar .byte (x_3)) = upd f (k + j) (nbb x_3) := by rw [nI_clamp (by omega)]; exact congrArg (upd f (k + j)) (vp_nar_byte x_3)
      rw [eS] at hP hD
      refine lv_aload_n hx hb d_O_command_143 rfl (lv_at hl 1 rfl) ?_
      refine lv_dup hx hb d_O_command_144 rfl ?_
      refine va_get (D := (dC, dI)) (ci := 7) (v := .int (nI (k + j))) (C := R_O) (T := F_O) (N := 27) hx hb hw0 in_O hown hK hP 0 rfl rfl 14 (by decide) (hw0 (.fieldLink R_O 113 "TextKeeperModel" "madeSize" "I") wm_246) (fun _ h9 => h9) rfl d_O_command_145 ?_
      refine lv_iconst (v := 1) hx hb d_O_command_148 (by decide) ?_
      refine lv_iadd hx hb d_O_command_149 ?_
      refine lv_topi (fun x_4 ex_4 => ?_)
      obtain rfl : x_4 = (nI (k + j + 1)) := by rw [ex_4]; exact nI_1 (k + j)
      clear ex_4
      refine va_put (D := (dC, dI)) (ci := 7) (v := .int (nI (k + j + 1))) (ty := .int) (C := R_O) (T := F_O) (N := 27) hx hb hw0 in_O ft_O tk_O nk_O hown hK hP hD hS 0 rfl rfl 14 (by decide) (hw0 (.fieldLink R_O 113 "TextKeeperModel" "madeSize" "I") wm_246) (fun _ h9 => h9) rfl (by decide +kernel) rfl rfl (Nat.le_of_ble_eq_true rfl) d_O_command_150 (fun H locs hP hD hS => ?_)
      replace hP : va_P (dC, dI) vwCl [(h0, .inr (7, [.int i_thrown, .int i_down, .int i_lasts, v_buffer, .int i_size, .int i_documents, v_gone, v_first, v_many, v_lengths, v_authors, v_sums, .ref hrow, .ref hmade, .int (nI (k + j + 1)), .ref hbase, .int (nI kb), v_text, .int i_textSize, .int i_textSteps, v_other, .int i_otherSize, v_piece, .int i_pieceSize, .int (nI ab), .int (nI en), .int i_value])), (hmade, .inl (cM, 256, .inl ((upd f (k + j) (nbb x_3))))), (hbase, .inl (cB, 256, .inl (fb))), (hrow, .inl (cW, 16384, .inl (fr)))] H := hP
      replace hD : va_D A [(h0, .inr (7, [.int i_thrown, .int i_down, .int i_lasts, v_buffer, .int i_size, .int i_documents, v_gone, v_first, v_many, v_lengths, v_authors, v_sums, .ref hrow, .ref hmade, .int (nI (k + j + 1)), .ref hbase, .int (nI kb), v_text, .int i_textSize, .int i_textSteps, v_other, .int i_otherSize, v_piece, .int i_pieceSize, .int (nI ab), .int (nI en), .int i_value])), (hmade, .inl (cM, 256, .inl ((upd f (k + j) (nbb x_3))))), (hbase, .inl (cB, 256, .inl (fb))), (hrow, .inl (cW, 16384, .inl (fr)))] := hD
      refine lv_iinc (v := nI (j + 1)) (lv' := [(4, .int (nI (j + 1))), (0, .ref h0), (1, .int (nI cn)), (2, .int 0), (3, .int (nI pl))]) hx hb d_O_command_153 hl (k := 0) rfl (nI_1 j) (by decide) rfl (fun ls hl => ?_)
      refine lv_goto (tgt := 103) hx hb d_O_command_156 (by decide) ?_
      have eq9 : k + j + 1 = k + (j + 1) := by omega
      rw [eq9] at hP hD
      exact ih (j + 1) hlt (by omega) (upd f (k + j) (nbb x_3)) (y_sx hsx hpl (by omega) (by omega) ex_3 hf0) _ _ (hP.sub (ws' := [(h0, .inr (7, [.int i_thrown, .int i_down, .int i_lasts, v_buffer, .int i_size, .int i_documents, v_gone, v_first, v_many, v_lengths, v_authors, v_sums, .ref hrow, .ref hmade, .int (nI (k + (j + 1))), .ref hbase, .int (nI kb), v_text, .int i_textSize, .int i_textSteps, v_other, .int i_otherSize, v_piece, .int i_pieceSize, .int (nI ab), .int (nI en), .int i_value])), (hmade, .inl (cM, 256, .inl ((upd f (k + j) (nbb x_3))))), (hbase, .inl (cB, 256, .inl (fb))), (hrow, .inl (cW, 16384, .inl (fr)))]) [0, 1, 2, 3] rfl) (hD.sub (ws' := [(h0, .inr (7, [.int i_thrown, .int i_down, .int i_lasts, v_buffer, .int i_size, .int i_documents, v_gone, v_first, v_many, v_lengths, v_authors, v_sums, .ref hrow, .ref hmade, .int (nI (k + (j + 1))), .ref hbase, .int (nI kb), v_text, .int i_textSize, .int i_textSteps, v_other, .int i_otherSize, v_piece, .int i_pieceSize, .int (nI ab), .int (nI en), .int i_value])), (hmade, .inl (cM, 256, .inl ((upd f (k + j) (nbb x_3))))), (hbase, .inl (cB, 256, .inl (fb))), (hrow, .inl (cW, 16384, .inl (fr)))]) [0, 1, 2, 3] (by decide) rfl) hS ls (lv_sub hl [0, 1, 2, 3, 4] rfl)
set_option maxHeartbeats 4000000 in
set_option maxRecDepth 100000 in
theorem lo_cmc {p : Program} {l : Launch} {e : Env} {s : State} {m : MethodId} {args : Array Value} {below : List Frame} {meth : Method} {c : Code} {dC : Nat → ClassId} {dI : Nat → Nat → Nat} {A : Nat → Prop} {Q : State → Prop} (h0 : Nat) (i_thrown : Int32) (i_down : Int32) (i_lasts : Int32) (v_buffer : Value) (i_size : Int32) (i_documents : Int32) (v_gone : Value) (v_first : Value) (v_many : Value) (v_lengths : Value) (v_authors : Value) (v_sums : Value) (v_text : Value) (i_textSize : Int32) (i_textSteps : Int32) (v_other : Value) (i_otherSize : Int32) (v_piece : Value) (i_pieceSize : Int32) (i_value : Int32) (hmade : Nat) (cM : ClassId) (k : Nat) (hbase : Nat) (cB : ClassId) (kb : Nat) (fb : Nat → Int32) (Bs : List Int32) (hrow : Nat) (cW : ClassId) (fr : Nat → Int32) (S : List Int32) (ab : Nat) (en : Nat) (b0 : Nat) (T : List Int32) (a : Nat) (cn : Nat) (pl : Nat) (htb : tx Bs kb fb) (hsx : sx S b0 fr) (hk : k ≤ 256) (hkb : kb ≤ 256) (hen : en = b0 + S.length) (hc : k + cn ≤ 256) (hac : pl + cn ≤ kb)
    (hx : p.tables.exec = Jvm.exec) (hb : c.code = prog_9_method_18_code) (hml : c.maxLocals = 5) (hown : s.vm.findClass R_O = some m.cls) (hw0 : ∀ w ∈ w0, w.before args s = true) (hN : nw_ok s) (hK : va_K (dC, dI) vwCl [(cM, .byte), (cB, .byte), (cW, .byte)] s) (hA : ∀ q : Nat, s.heap.size ≤ q → A q)
    (kk : ∀ (f : Nat → Int32), (tx (T ++ (Bs.drop pl).take cn) (k + cn) f) → ∀ (H : Heap) (locs : List Loc), va_P (dC, dI) vwCl [(h0, .inr (7, [.int i_thrown, .int i_down, .int i_lasts, v_buffer, .int i_size, .int i_documents, v_gone, v_first, v_many, v_lengths, v_authors, v_sums, .ref hrow, .ref hmade, .int (nI (k + cn)), .ref hbase, .int (nI kb), v_text, .int i_textSize, .int i_textSteps, v_other, .int i_otherSize, v_piece, .int i_pieceSize, .int (nI ab), .int (nI en), .int i_value])), (hmade, .inl (cM, 256, .inl (f))), (hbase, .inl (cB, 256, .inl (fb))), (hrow, .inl (cW, 16384, .inl (fr)))] H → va_D A [(h0, .inr (7, [.int i_thrown, .int i_down, .int i_lasts, v_buffer, .int i_size, .int i_documents, v_gone, v_first, v_many, v_lengths, v_authors, v_sums, .ref hrow, .ref hmade, .int (nI (k + cn)), .ref hbase, .int (nI kb), v_text, .int i_textSize, .int i_textSteps, v_other, .int i_otherSize, v_piece, .int i_pieceSize, .int (nI ab), .int (nI en), .int i_value])), (hmade, .inl (cM, 256, .inl (f))), (hbase, .inl (cB, 256, .inl (fb))), (hrow, .inl (cW, 16384, .inl (fr)))] → va_S A s.heap H locs → ∀ ls : Array Slot, lv_has ls 5 [(4, .int (nI cn)), (0, .ref h0), (1, .int (nI cn)), (2, .int 1), (3, .int (nI pl))] → W p l e ({ frames := 1, cells := 0, slots := 0, locals := 22 } : Room) s m args below meth c H locs 0 0 Q (F0 m 159 ls [])) :
    ∀ (n j : Nat), j ≤ cn → cn < j + n → ∀ (f : Nat → Int32), (tx (T ++ (Bs.drop pl).take j) (k + j) f) → ∀ (H : Heap) (locs : List Loc), va_P (dC, dI) vwCl [(h0, .inr (7, [.int i_thrown, .int i_down, .int i_lasts, v_buffer, .int i_size, .int i_documents, v_gone, v_first, v_many, v_lengths, v_authors, v_sums, .ref hrow, .ref hmade, .int (nI (k + j)), .ref hbase, .int (nI kb), v_text, .int i_textSize, .int i_textSteps, v_other, .int i_otherSize, v_piece, .int i_pieceSize, .int (nI ab), .int (nI en), .int i_value])), (hmade, .inl (cM, 256, .inl (f))), (hbase, .inl (cB, 256, .inl (fb))), (hrow, .inl (cW, 16384, .inl (fr)))] H → va_D A [(h0, .inr (7, [.int i_thrown, .int i_down, .int i_lasts, v_buffer, .int i_size, .int i_documents, v_gone, v_first, v_many, v_lengths, v_authors, v_sums, .ref hrow, .ref hmade, .int (nI (k + j)), .ref hbase, .int (nI kb), v_text, .int i_textSize, .int i_textSteps, v_other, .int i_otherSize, v_piece, .int i_pieceSize, .int (nI ab), .int (nI en), .int i_value])), (hmade, .inl (cM, 256, .inl (f))), (hbase, .inl (cB, 256, .inl (fb))), (hrow, .inl (cW, 16384, .inl (fr)))] → va_S A s.heap H locs → ∀ ls : Array Slot, lv_has ls 5 [(4, .int (nI j)), (0, .ref h0), (1, .int (nI cn)), (2, .int 1), (3, .int (nI pl))] → W p l e ({ frames := 1, cells := 0, slots := 0, locals := 22 } : Room) s m args below meth c H locs 0 0 Q (F0 m 103 ls []) := by
  intro n
  induction n with
  | zero => intro j h1 h2; exact absurd h2 (by omega)
  | succ n ih =>
    intro j hj hn f hf0 H locs hP hD hS ls hl
    refine lv_iload hx hb d_O_command_103 (lv_at hl 0 rfl) ?_
    refine lv_iload_n hx hb d_O_command_105 rfl (lv_at hl 2 rfl) ?_
    refine lv_icmp_ge (tgt := 159) hx hb d_O_command_106 (by decide) (fun c_1 => ?_) (fun c_1 => ?_)
    · obtain rfl : j = cn := x_geN (by omega) hj c_1
      exact kk f hf0 _ _ hP hD hS ls (lv_sub hl [0, 1, 2, 3, 4] rfl)
    · have hlt : j < cn := x_ltN (by omega) hj c_1; have hl9 := hsx.2.2
      refine lv_aload_n hx hb d_O_command_109 rfl (lv_at hl 1 rfl) ?_
      refine va_get (D := (dC, dI)) (ci := 7) (v := .ref hmade) (C := R_O) (T := F_O) (N := 27) hx hb hw0 in_O hown hK hP 0 rfl rfl 13 (by decide) (hw0 (.fieldLink R_O 41 "TextKeeperModel" "made" "[B") wm_248) (fun _ h9 => h9) rfl d_O_command_110 ?_
      refine lv_aload_n hx hb d_O_command_113 rfl (lv_at hl 1 rfl) ?_
      refine va_get (D := (dC, dI)) (ci := 7) (v := .int (nI (k + j))) (C := R_O) (T := F_O) (N := 27) hx hb hw0 in_O hown hK hP 0 rfl rfl 14 (by decide) (hw0 (.fieldLink R_O 113 "TextKeeperModel" "madeSize" "I") wm_246) (fun _ h9 => h9) rfl d_O_command_114 ?_
      refine lv_iload_n hx hb d_O_command_117 rfl (lv_at hl 3 rfl) ?_
      refine lv_if_eq (tgt := 133) hx hb d_O_command_118 (by decide) (fun h9 => absurd h9 (by decide +kernel)) (fun _ => ?_)
      refine lv_aload_n hx hb d_O_command_121 rfl (lv_at hl 1 rfl) ?_
      refine va_get (D := (dC, dI)) (ci := 7) (v := .ref hbase) (C := R_O) (T := F_O) (N := 27) hx hb hw0 in_O hown hK hP 0 rfl rfl 15 (by decide) (hw0 (.fieldLink R_O 44 "TextKeeperModel" "base" "[B") wm_283) (fun _ h9 => h9) rfl d_O_command_122 ?_
      refine lv_iload_n hx hb d_O_command_125 rfl (lv_at hl 4 rfl) ?_
      refine lv_iload hx hb d_O_command_126 (lv_at hl 0 rfl) ?_
      refine lv_iadd hx hb d_O_command_128 ?_
      refine lv_topi (fun x_2 ex_2 => ?_)
      obtain rfl : x_2 = (nI (pl + j)) := by rw [ex_2]; exact nI_add pl j
      clear ex_2
      refine va_bald hx hb hK hP 2 1 rfl rfl (vp_in_nI (by omega) (by decide)) d_O_command_129 ?_
      refine lv_topi (fun x_3 ex_3 => ?_)
      refine lv_goto (tgt := 142) hx hb d_O_command_130 (by decide) ?_
      refine va_bast hx hb hK hP hD hS 1 0 rfl rfl (vp_in_nI (by omega) (by decide)) d_O_command_142 (fun H locs hP hD hS => ?_)
      replace hP : va_P (dC, dI) vwCl [(h0, .inr (7, [.int i_thrown, .int i_down, .int i_lasts, v_buffer, .int i_size, .int i_documents, v_gone, v_first, v_many, v_lengths, v_authors, v_sums, .ref hrow, .ref hmade, .int (nI (k + j)), .ref hbase, .int (nI kb), v_text, .int i_textSize, .int i_textSteps, v_other, .int i_otherSize, v_piece, .int i_pieceSize, .int (nI ab), .int (nI en), .int i_value])), (hmade, .inl (cM, 256, .inl (upd (f) (Int32.toNatClampNeg (nI (k + j))) (vp_nar .byte (x_3))))), (hbase, .inl (cB, 256, .inl (fb))), (hrow, .inl (cW, 16384, .inl (fr)))] H := hP
      replace hD : va_D A [(h0, .inr (7, [.int i_thrown, .int i_down, .int i_lasts, v_buffer, .int i_size, .int i_documents, v_gone, v_first, v_many, v_lengths, v_authors, v_sums, .ref hrow, .ref hmade, .int (nI (k + j)), .ref hbase, .int (nI kb), v_text, .int i_textSize, .int i_textSteps, v_other, .int i_otherSize, v_piece, .int i_pieceSize, .int (nI ab), .int (nI en), .int i_value])), (hmade, .inl (cM, 256, .inl (upd (f) (Int32.toNatClampNeg (nI (k + j))) (vp_nar .byte (x_3))))), (hbase, .inl (cB, 256, .inl (fb))), (hrow, .inl (cW, 16384, .inl (fr)))] := hD
      have eS : upd (f) (Int32.toNatClampNeg (nI (k + j))) (vp_nar .byte (x_3)) = upd f (k + j) (nbb x_3) := by rw [nI_clamp (by omega)]; exact congrArg (upd f (k + j)) (vp_nar_byte x_3)
      rw [eS] at hP hD
      refine lv_aload_n hx hb d_O_command_143 rfl (lv_at hl 1 rfl) ?_
      refine lv_dup hx hb d_O_command_144 rfl ?_
      refine va_get (D := (dC, dI)) (ci := 7) (v := .int (nI (k + j))) (C := R_O) (T := F_O) (N := 27) hx hb hw0 in_O hown hK hP 0 rfl rfl 14 (by decide) (hw0 (.fieldLink R_O 113 "TextKeeperModel" "madeSize" "I") wm_246) (fun _ h9 => h9) rfl d_O_command_145 ?_
      refine lv_iconst (v := 1) hx hb d_O_command_148 (by decide) ?_
      refine lv_iadd hx hb d_O_command_149 ?_
      refine lv_topi (fun x_4 ex_4 => ?_)
      obtain rfl : x_4 = (nI (k + j + 1)) := by rw [ex_4]; exact nI_1 (k + j)
      clear ex_4
      refine va_put (D := (dC, dI)) (ci := 7) (v := .int (nI (k + j + 1))) (ty := .int) (C := R_O) (T := F_O) (N := 27) hx hb hw0 in_O ft_O tk_O nk_O hown hK hP hD hS 0 rfl rfl 14 (by decide) (hw0 (.fieldLink R_O 113 "TextKeeperModel" "madeSize" "I") wm_246) (fun _ h9 => h9) rfl (by decide +kernel) rfl rfl (Nat.le_of_ble_eq_true rfl) d_O_command_150 (fun H locs hP hD hS => ?_)
      replace hP : va_P (dC, dI) vwCl [(h0, .inr (7, [.int i_thrown, .int i_down, .int i_lasts, v_buffer, .int i_size, .int i_documents, v_gone, v_first, v_many, v_lengths, v_authors, v_sums, .ref hrow, .ref hmade, .int (nI (k + j + 1)), .ref hbase, .int (nI kb), v_text, .int i_textSize, .int i_textSteps, v_other, .int i_otherSize, v_piece, .int i_pieceSize, .int (nI ab), .int (nI en), .int i_value])), (hmade, .inl (cM, 256, .inl ((upd f (k + j) (nbb x_3))))), (hbase, .inl (cB, 256, .inl (fb))), (hrow, .inl (cW, 16384, .inl (fr)))] H := hP
      replace hD : va_D A [(h0, .inr (7, [.int i_thrown, .int i_down, .int i_lasts, v_buffer, .int i_size, .int i_documents, v_gone, v_first, v_many, v_lengths, v_authors, v_sums, .ref hrow, .ref hmade, .int (nI (k + j + 1)), .ref hbase, .int (nI kb), v_text, .int i_textSize, .int i_textSteps, v_other, .int i_otherSize, v_piece, .int i_pieceSize, .int (nI ab), .int (nI en), .int i_value])), (hmade, .inl (cM, 256, .inl ((upd f (k + j) (nbb x_3))))), (hbase, .inl (cB, 256, .inl (fb))), (hrow, .inl (cW, 16384, .inl (fr)))] := hD
      refine lv_iinc (v := nI (j + 1)) (lv' := [(4, .int (nI (j + 1))), (0, .ref h0), (1, .int (nI cn)), (2, .int 1), (3, .int (nI pl))]) hx hb d_O_command_153 hl (k := 0) rfl (nI_1 j) (by decide) rfl (fun ls hl => ?_)
      refine lv_goto (tgt := 103) hx hb d_O_command_156 (by decide) ?_
      have eq9 : k + j + 1 = k + (j + 1) := by omega
      rw [eq9] at hP hD
      exact ih (j + 1) hlt (by omega) (upd f (k + j) (nbb x_3)) (y_bx htb (by omega) (by omega) (by omega) ex_3 hf0) _ _ (hP.sub (ws' := [(h0, .inr (7, [.int i_thrown, .int i_down, .int i_lasts, v_buffer, .int i_size, .int i_documents, v_gone, v_first, v_many, v_lengths, v_authors, v_sums, .ref hrow, .ref hmade, .int (nI (k + (j + 1))), .ref hbase, .int (nI kb), v_text, .int i_textSize, .int i_textSteps, v_other, .int i_otherSize, v_piece, .int i_pieceSize, .int (nI ab), .int (nI en), .int i_value])), (hmade, .inl (cM, 256, .inl ((upd f (k + j) (nbb x_3))))), (hbase, .inl (cB, 256, .inl (fb))), (hrow, .inl (cW, 16384, .inl (fr)))]) [0, 1, 2, 3] rfl) (hD.sub (ws' := [(h0, .inr (7, [.int i_thrown, .int i_down, .int i_lasts, v_buffer, .int i_size, .int i_documents, v_gone, v_first, v_many, v_lengths, v_authors, v_sums, .ref hrow, .ref hmade, .int (nI (k + (j + 1))), .ref hbase, .int (nI kb), v_text, .int i_textSize, .int i_textSteps, v_other, .int i_otherSize, v_piece, .int i_pieceSize, .int (nI ab), .int (nI en), .int i_value])), (hmade, .inl (cM, 256, .inl ((upd f (k + j) (nbb x_3))))), (hbase, .inl (cB, 256, .inl (fb))), (hrow, .inl (cW, 16384, .inl (fr)))]) [0, 1, 2, 3] (by decide) rfl) hS ls (lv_sub hl [0, 1, 2, 3, 4] rfl)
set_option maxHeartbeats 4000000 in
set_option maxRecDepth 100000 in
theorem o_command (l : Launch) (dC : Nat → ClassId) (dI : Nat → Nat → Nat) (sz : Nat) (h0 : Nat) (i_thrown : Int32) (i_down : Int32) (i_lasts : Int32) (v_buffer : Value) (i_size : Int32) (i_documents : Int32) (v_gone : Value) (v_first : Value) (v_many : Value) (v_lengths : Value) (v_authors : Value) (v_sums : Value) (v_text : Value) (i_textSize : Int32) (i_textSteps : Int32) (v_other : Value) (i_otherSize : Int32) (v_piece : Value) (i_pieceSize : Int32) (i_value : Int32) (hmade : Nat) (cM : ClassId) (k : Nat) (T : List Int32) (hbase : Nat) (cB : ClassId) (kb : Nat) (fb : Nat → Int32) (Bs : List Int32) (hrow : Nat) (cW : ClassId) (fr : Nat → Int32) (S : List Int32) (ab : Nat) (en : Nat) (b0 : Nat) (a : Nat) (f : Nat → Int32) (htt : tx T k f) (htb : tx Bs kb fb) (hsx : sx S b0 fr) (hk : k ≤ 256) (hkb : kb ≤ 256) (hab : ab = b0 + a) (hen : en = b0 + S.length) (ha : a ≤ S.length) : Met l y_O_command k_O_command ({ frames := 1, cells := 0, slots := 0, locals := 22 } : Room) (va_Pc [.ref h0] (pc_E (dC, dI) [(h0, .inr (7, [.int i_thrown, .int i_down, .int i_lasts, v_buffer, .int i_size, .int i_documents, v_gone, v_first, v_many, v_lengths, v_authors, v_sums, .ref hrow, .ref hmade, .int (nI k), .ref hbase, .int (nI kb), v_text, .int i_textSize, .int i_textSteps, v_other, .int i_otherSize, v_piece, .int i_pieceSize, .int (nI ab), .int (nI en), .int i_value])), (hmade, .inl (cM, 256, .inl (f))), (hbase, .inl (cB, 256, .inl (fb))), (hrow, .inl (cW, 16384, .inl (fr)))] [(cM, .byte), (cB, .byte), (cW, .byte)] sz)) (va_Qi (fun (r : Int32) (_ : Unit) => r = bI (cmd S Bs T a).isSome) (fun (_ : Unit) t => ∃ (a2 : Nat) (ab2 : Nat) (k2 : Nat) (f2 : Nat → Int32) (T2 : List Int32) (vv : Int32), ((tx T2 k2 f2 ∧ k2 ≤ 256 ∧ ab2 = b0 + a2 ∧ a2 ≤ S.length) ∧ cmR (cmd S Bs T a) T2 a2) ∧ at_E (dC, dI) (va_A [(h0, .inr (7, [.int i_thrown, .int i_down, .int i_lasts, v_buffer, .int i_size, .int i_documents, v_gone, v_first, v_many, v_lengths, v_authors, v_sums, .ref hrow, .ref hmade, .int (nI k), .ref hbase, .int (nI kb), v_text, .int i_textSize, .int i_textSteps, v_other, .int i_otherSize, v_piece, .int i_pieceSize, .int (nI ab), .int (nI en), .int i_value])), (hmade, .inl (cM, 256, .inl (f))), (hbase, .inl (cB, 256, .inl (fb))), (hrow, .inl (cW, 16384, .inl (fr)))] sz) [(h0, .inr (7, [.int i_thrown, .int i_down, .int i_lasts, v_buffer, .int i_size, .int i_documents, v_gone, v_first, v_many, v_lengths, v_authors, v_sums, .ref hrow, .ref hmade, .int (nI k2), .ref hbase, .int (nI kb), v_text, .int i_textSize, .int i_textSteps, v_other, .int i_otherSize, v_piece, .int i_pieceSize, .int (nI ab2), .int (nI en), .int vv])), (hmade, .inl (cM, 256, .inl (f2))), (hbase, .inl (cB, 256, .inl (fb))), (hrow, .inl (cW, 16384, .inl (fr)))] [(cM, .byte), (cB, .byte), (cW, .byte)] t) (va_A [(h0, .inr (7, [.int i_thrown, .int i_down, .int i_lasts, v_buffer, .int i_size, .int i_documents, v_gone, v_first, v_many, v_lengths, v_authors, v_sums, .ref hrow, .ref hmade, .int (nI k), .ref hbase, .int (nI kb), v_text, .int i_textSize, .int i_textSteps, v_other, .int i_otherSize, v_piece, .int i_pieceSize, .int (nI ab), .int (nI en), .int i_value])), (hmade, .inl (cM, 256, .inl (f))), (hbase, .inl (cB, 256, .inl (fb))), (hrow, .inl (cW, 16384, .inl (fr)))] sz)) 0 0 (va_A [(h0, .inr (7, [.int i_thrown, .int i_down, .int i_lasts, v_buffer, .int i_size, .int i_documents, v_gone, v_first, v_many, v_lengths, v_authors, v_sums, .ref hrow, .ref hmade, .int (nI k), .ref hbase, .int (nI kb), v_text, .int i_textSize, .int i_textSteps, v_other, .int i_otherSize, v_piece, .int i_pieceSize, .int (nI ab), .int (nI en), .int i_value])), (hmade, .inl (cM, 256, .inl (f))), (hbase, .inl (cB, 256, .inl (fb))), (hrow, .inl (cW, 16384, .inl (fr)))] sz) := by
  refine Met.ofW (cc := prog_9_method_18_code) (maxL := 5) (ret := (some .boolean)) (by decide) rfl ?_
  intro p e s m args below meth c s₁ B hml hv
  obtain ⟨rfl, hsz, hP, hK, hD0, hN⟩ := hv
  have hx := B.exec
  have hb := B.bytes
  have hr := B.returns
  have hts := atoms_spec (ws := k_O_command) B.pre
  have hw0 : ∀ w ∈ w0, w.before _ s = true := fun w h => hts w (List.mem_cons_of_mem _ h)
  have hown : s.vm.findClass R_O = some m.cls := findClass_of_methodNamed B.named
  have hlocks := B.notSynchronized
  subst hsz
  have hD := hD0.self (sz := s.heap.size)
  generalize hAe : va_A [(h0, .inr (7, [.int i_thrown, .int i_down, .int i_lasts, v_buffer, .int i_size, .int i_documents, v_gone, v_first, v_many, v_lengths, v_authors, v_sums, .ref hrow, .ref hmade, .int (nI k), .ref hbase, .int (nI kb), v_text, .int i_textSize, .int i_textSteps, v_other, .int i_otherSize, v_piece, .int i_pieceSize, .int (nI ab), .int (nI en), .int i_value])), (hmade, .inl (cM, 256, .inl (f))), (hbase, .inl (cB, 256, .inl (fb))), (hrow, .inl (cW, 16384, .inl (fr)))] s.heap.size = A at hD ⊢
  have hA : ∀ q : Nat, s.heap.size ≤ q → A q := fun q h => by rw [← hAe]; exact Or.inr h
  have hS : va_S A s.heap s.heap [] := va_S.rf
  have hP : va_P (dC, dI) vwCl [(h0, .inr (7, [.int i_thrown, .int i_down, .int i_lasts, v_buffer, .int i_size, .int i_documents, v_gone, v_first, v_many, v_lengths, v_authors, v_sums, .ref hrow, .ref hmade, .int (nI k), .ref hbase, .int (nI kb), v_text, .int i_textSize, .int i_textSteps, v_other, .int i_otherSize, v_piece, .int i_pieceSize, .int (nI ab), .int (nI en), .int i_value])), (hmade, .inl (cM, 256, .inl (f))), (hbase, .inl (cB, 256, .inl (fb))), (hrow, .inl (cW, 16384, .inl (fr)))] s.heap := hP
  have hl := lv_entry ([.ref h0]) (n := 5) (Nat.le_of_ble_eq_true rfl)
  rw [lg_entry_eq]
  generalize (lg_sl ([.ref h0]) ++ List.replicate (5 - (lg_sl ([.ref h0])).length) Slot.unset).toArray = ls at hl ⊢
  have hl : lv_has ls 5 [(0, .ref h0)] := hl
  have hl9 := hsx.2.2
  refine lv_aload_n hx hb d_O_command_0 rfl (lv_at hl 0 rfl) ?_
  have hPc := hP.sub (ws' := [(h0, .inr (7, [.int i_thrown, .int i_down, .int i_lasts, v_buffer, .int i_size, .int i_documents, v_gone, v_first, v_many, v_lengths, v_authors, v_sums, .ref hrow, .ref hmade, .int (nI k), .ref hbase, .int (nI kb), v_text, .int i_textSize, .int i_textSteps, v_other, .int i_otherSize, v_piece, .int i_pieceSize, .int (nI ab), .int (nI en), .int i_value])), (hrow, .inl (cW, 16384, .inl ((fr))))]) [0, 3] rfl
  have hKc := hK.sub (tys' := [(cW, .byte)]) [2] rfl
  have hDc := hD.sub (ws' := [(h0, .inr (7, [.int i_thrown, .int i_down, .int i_lasts, v_buffer, .int i_size, .int i_documents, v_gone, v_first, v_many, v_lengths, v_authors, v_sums, .ref hrow, .ref hmade, .int (nI k), .ref hbase, .int (nI kb), v_text, .int i_textSize, .int i_textSteps, v_other, .int i_otherSize, v_piece, .int i_pieceSize, .int (nI ab), .int (nI en), .int i_value])), (hrow, .inl (cW, 16384, .inl ((fr))))]) [0, 3] (by decide) rfl
  have hFc := va_free (wc := [(h0, .inr (7, [.int i_thrown, .int i_down, .int i_lasts, v_buffer, .int i_size, .int i_documents, v_gone, v_first, v_many, v_lengths, v_authors, v_sums, .ref hrow, .ref hmade, .int (nI k), .ref hbase, .int (nI kb), v_text, .int i_textSize, .int i_textSteps, v_other, .int i_otherSize, v_piece, .int i_pieceSize, .int (nI ab), .int (nI en), .int i_value])), (hrow, .inl (cW, 16384, .inl ((fr))))]) hD hS hA [0, 3] rfl
  refine va_calli (va_runV (As := []) (rest := []) ⟨hx, hb, hml, hown, hw0⟩ (o_number l dC dI s.heap.size h0 i_thrown i_down i_lasts v_buffer i_size i_documents v_gone v_first v_many v_lengths v_authors v_sums (.ref hmade) (nI k) (.ref hbase) (nI kb) v_text i_textSize i_textSteps v_other i_otherSize v_piece i_pieceSize i_value hrow cW (fr) _ ab en _ _ (by first | assumption | decide | omega) (by first | assumption | decide | omega) (by first | assumption | decide | omega) (by first | assumption | decide | omega)) (cwV 0 hw0 (gd_Vm wm_284 wm_285 wm_286 wm_243 wm_287) rfl rfl rfl (by decide +kernel) ⟨by decide +kernel, by decide +kernel⟩) (prV_E hPc hKc hDc hN (va_recv hKc hPc (ci := 7) (q0 := 0) rfl rfl)) rfl rfl hl.1 rfl (lv_room (Nat.le_of_ble_eq_true rfl)) d_O_command_1 ⟨by decide +kernel, by decide +kernel⟩) hS (fun q _ h => hFc q h) hFc (fun r_1 u t H1 locs ht hvm hw hB hz1 hk1 hS => ?_)
  obtain ⟨a2_2, vv_3, ⟨hu_4_0, hu_4_1⟩, hP1, hK1, hD1⟩ := hB
  rw [ht] at hP1
  have hK1 := va_K.moved hvm.symm hK1
  try dsimp only at hw
  obtain ⟨hP, hD⟩ := va_join (wr := [(hmade, .inl (cM, 256, .inl (f))), (hbase, .inl (cB, 256, .inl (fb)))]) (w1 := [(h0, .inr (7, [.int i_thrown, .int i_down, .int i_lasts, v_buffer, .int i_size, .int i_documents, v_gone, v_first, v_many, v_lengths, v_authors, v_sums, .ref hrow, .ref hmade, .int (nI k), .ref hbase, .int (nI kb), v_text, .int i_textSize, .int i_textSteps, v_other, .int i_otherSize, v_piece, .int i_pieceSize, .int (nI a2_2), .int (nI en), .int vv_3])), (hrow, .inl (cW, 16384, .inl ((fr))))]) hP hD [0, 3] [1, 2] rfl rfl (by decide) (by decide) hk1 hFc hP1 hD1
  generalize H1 = H at hP hS ⊢
  replace hP : va_P (dC, dI) vwCl [(hmade, .inl (cM, 256, .inl (f))), (hbase, .inl (cB, 256, .inl (fb))), (h0, .inr (7, [.int i_thrown, .int i_down, .int i_lasts, v_buffer, .int i_size, .int i_documents, v_gone, v_first, v_many, v_lengths, v_authors, v_sums, .ref hrow, .ref hmade, .int (nI k), .ref hbase, .int (nI kb), v_text, .int i_textSize, .int i_textSteps, v_other, .int i_otherSize, v_piece, .int i_pieceSize, .int (nI a2_2), .int (nI en), .int vv_3])), (hrow, .inl (cW, 16384, .inl ((fr))))] H := hP
  replace hD : va_D A [(hmade, .inl (cM, 256, .inl (f))), (hbase, .inl (cB, 256, .inl (fb))), (h0, .inr (7, [.int i_thrown, .int i_down, .int i_lasts, v_buffer, .int i_size, .int i_documents, v_gone, v_first, v_many, v_lengths, v_authors, v_sums, .ref hrow, .ref hmade, .int (nI k), .ref hbase, .int (nI kb), v_text, .int i_textSize, .int i_textSteps, v_other, .int i_otherSize, v_piece, .int i_pieceSize, .int (nI a2_2), .int (nI en), .int vv_3])), (hrow, .inl (cW, 16384, .inl ((fr))))] := hD
  replace hK : va_K (dC, dI) vwCl [(cM, .byte), (cB, .byte), (cW, .byte)] s := hK
  have hw_5 := hw
  have ha2 : (rd S a).2 ≤ S.length := rd_le ha
  rcases hq9 : (rd S a).1 with _ | hv
  · rw [hq9] at hw_5; obtain rfl : r_1 = 0 := hw_5
    refine lv_if_ne (tgt := 9) hx hb d_O_command_4 (by decide) (fun h9 => absurd h9 (by decide +kernel)) (fun _ => ?_)
    refine lv_iconst (v := 0) hx hb d_O_command_7 (by decide) ?_
    have hP9 := hP.sub (ws' := [(h0, .inr (7, [.int i_thrown, .int i_down, .int i_lasts, v_buffer, .int i_size, .int i_documents, v_gone, v_first, v_many, v_lengths, v_authors, v_sums, .ref hrow, .ref hmade, .int (nI k), .ref hbase, .int (nI kb), v_text, .int i_textSize, .int i_textSteps, v_other, .int i_otherSize, v_piece, .int i_pieceSize, .int (nI (a2_2)), .int (nI en), .int vv_3])), (hmade, .inl (cM, 256, .inl (f))), (hbase, .inl (cB, 256, .inl (fb))), (hrow, .inl (cW, 16384, .inl (fr)))]) [2, 0, 1, 3] rfl
    have hD9 := hD.sub (ws' := [(h0, .inr (7, [.int i_thrown, .int i_down, .int i_lasts, v_buffer, .int i_size, .int i_documents, v_gone, v_first, v_many, v_lengths, v_authors, v_sums, .ref hrow, .ref hmade, .int (nI k), .ref hbase, .int (nI kb), v_text, .int i_textSize, .int i_textSteps, v_other, .int i_otherSize, v_piece, .int i_pieceSize, .int (nI (a2_2)), .int (nI en), .int vv_3])), (hmade, .inl (cM, 256, .inl (f))), (hbase, .inl (cB, 256, .inl (fb))), (hrow, .inl (cW, 16384, .inl (fr)))]) [2, 0, 1, 3] (by decide) rfl
    have hK9 := hK.sub (tys' := [(cM, .byte), (cB, .byte), (cW, .byte)]) [0, 1, 2] rfl
    exact W.zret (v := 0) (ty := .boolean) hx hb hr rfl (fun t ht hW => ⟨⟨0, (), rfl, (by rw [(show cmd S Bs T a = none from by first | exact cmd_0 hq9 | exact cmd_1 hq9 (Or.inl hz9) | exact cmd_1 hq9 (Or.inr (by rw [htt.1]; omega)) | (by_cases hb8 : hv / 2 = 0 ∨ 256 < T.length + hv / 2; exact cmd_1 hq9 hb8; first | exact cmd_3 hq9 hb8 hod hq8 | (rw [cmd_4 hq9 hb8 hod hq8]; exact if_pos (by rw [htb.1]; omega)) | (rw [cmd_2 hq9 hb8 hev]; exact if_pos (by omega))))]; rfl), (a2_2 - b0), (a2_2), k, f, T, vv_3, ⟨⟨htt, hk, (by omega), (by omega)⟩, cmR_n (show cmd S Bs T a = none from by first | exact cmd_0 hq9 | exact cmd_1 hq9 (Or.inl hz9) | exact cmd_1 hq9 (Or.inr (by rw [htt.1]; omega)) | (by_cases hb8 : hv / 2 = 0 ∨ 256 < T.length + hv / 2; exact cmd_1 hq9 hb8; first | exact cmd_3 hq9 hb8 hod hq8 | (rw [cmd_4 hq9 hb8 hod hq8]; exact if_pos (by rw [htb.1]; omega)) | (rw [cmd_2 hq9 hb8 hev]; exact if_pos (by omega))))⟩, by rw [ht]; exact hP9, va_K.moved hW.alike hK9, hD9⟩, hS.F ht⟩) hS.2.2 d_O_command_8
  · rw [hq9] at hw_5; obtain rfl : r_1 = 1 := hw_5; obtain rfl : vv_3 = nI hv := hu_4_1 hv hq9; have hd_hv := (rd_some hq9).1
    refine lv_if_ne (tgt := 9) hx hb d_O_command_4 (by decide) (fun _ => ?_) (fun h9 => absurd h9 (by decide +kernel))
    refine lv_aload_n hx hb d_O_command_9 rfl (lv_at hl 0 rfl) ?_
    refine va_get (D := (dC, dI)) (ci := 7) (v := .int (nI hv)) (C := R_O) (T := F_O) (N := 27) hx hb hw0 in_O hown hK hP 2 rfl rfl 26 (by decide) (hw0 (.fieldLink R_O 100 "TextKeeperModel" "value" "I") wm_261) (fun _ h9 => h9) rfl d_O_command_10 ?_
    refine lv_iconst (v := 2) hx hb d_O_command_13 (by decide) ?_
    refine lv_idiv hx hb d_O_command_14 (by decide +kernel) ?_
    refine lv_topi (fun x_6 ex_6 => ?_)
    obtain rfl : x_6 = (nI (hv / 2)) := by rw [ex_6]; exact (show nI hv / nI 2 = nI (hv / 2) from pk_div (by omega) (by decide) (by decide))
    clear ex_6
    refine lv_istore_n (lv' := [(1, .int (nI (hv / 2))), (0, .ref h0)]) hx hb d_O_command_15 rfl hl (by decide) rfl (fun ls hl => ?_)
    refine lv_aload_n hx hb d_O_command_16 rfl (lv_at hl 1 rfl) ?_
    refine va_get (D := (dC, dI)) (ci := 7) (v := .int (nI hv)) (C := R_O) (T := F_O) (N := 27) hx hb hw0 in_O hown hK hP 2 rfl rfl 26 (by decide) (hw0 (.fieldLink R_O 100 "TextKeeperModel" "value" "I") wm_261) (fun _ h9 => h9) rfl d_O_command_17 ?_
    refine lv_iconst (v := 2) hx hb d_O_command_20 (by decide) ?_
    refine lv_irem hx hb d_O_command_21 (by decide +kernel) ?_
    refine lv_topi (fun x_7 ex_7 => ?_)
    obtain rfl : x_7 = (nI (hv % 2)) := by rw [ex_7]; exact (show nI hv - nI hv / nI 2 * nI 2 = nI (hv % 2) from pk_rem (by omega) (by decide) (by decide))
    clear ex_7
    refine lv_iconst (v := 1) hx hb d_O_command_22 (by decide) ?_
    refine lv_icmp_ne (tgt := 30) hx hb d_O_command_23 (by decide) (fun c_8 => ?_) (fun c_8 => ?_)
    · have hev : hv % 2 = 0 := (by have h8 : ¬ hv % 2 = 1 := (fun z => c_8 (by rw [z]; rfl)); omega)
      refine lv_iconst (v := 0) hx hb d_O_command_30 (by decide) ?_
      refine lv_istore_n (lv' := [(2, .int 0), (1, .int (nI (hv / 2))), (0, .ref h0)]) hx hb d_O_command_31 rfl hl (by decide) rfl (fun ls hl => ?_)
      refine lv_iload_n hx hb d_O_command_32 rfl (lv_at hl 0 rfl) ?_
      refine lv_if_eq (tgt := 45) hx hb d_O_command_33 (by decide) (fun _ => ?_) (fun h9 => absurd h9 (by decide +kernel))
      refine lv_iload_n hx hb d_O_command_45 rfl (lv_at hl 0 rfl) ?_
      refine lv_if_eq (tgt := 56) hx hb d_O_command_46 (by decide) (fun _ => ?_) (fun h9 => absurd h9 (by decide +kernel))
      refine lv_aload_n hx hb d_O_command_56 rfl (lv_at hl 2 rfl) ?_
      refine va_get (D := (dC, dI)) (ci := 7) (v := .int (nI a2_2)) (C := R_O) (T := F_O) (N := 27) hx hb hw0 in_O hown hK hP 2 rfl rfl 24 (by decide) (hw0 (.fieldLink R_O 103 "TextKeeperModel" "at" "I") wm_262) (fun _ h9 => h9) rfl d_O_command_57 ?_
      refine lv_istore_n (lv' := [(3, .int (nI a2_2)), (2, .int 0), (1, .int (nI (hv / 2))), (0, .ref h0)]) hx hb d_O_command_60 rfl hl (by decide) rfl (fun ls hl => ?_)
      refine lv_iload_n hx hb d_O_command_61 rfl (lv_at hl 2 rfl) ?_
      refine lv_if_eq (tgt := 98) hx hb d_O_command_62 (by decide) (fun c_9 => ?_) (fun c_9 => ?_)
      · have hz9 : hv / 2 = 0 := (by rcases Nat.eq_zero_or_pos (hv / 2) with z | z; exact z; exact absurd c_9 (nI_ne0 z (by omega)))
        refine lv_iconst (v := 0) hx hb d_O_command_98 (by decide) ?_
        have hP9 := hP.sub (ws' := [(h0, .inr (7, [.int i_thrown, .int i_down, .int i_lasts, v_buffer, .int i_size, .int i_documents, v_gone, v_first, v_many, v_lengths, v_authors, v_sums, .ref hrow, .ref hmade, .int (nI k), .ref hbase, .int (nI kb), v_text, .int i_textSize, .int i_textSteps, v_other, .int i_otherSize, v_piece, .int i_pieceSize, .int (nI (a2_2)), .int (nI en), .int (nI hv)])), (hmade, .inl (cM, 256, .inl (f))), (hbase, .inl (cB, 256, .inl (fb))), (hrow, .inl (cW, 16384, .inl (fr)))]) [2, 0, 1, 3] rfl
        have hD9 := hD.sub (ws' := [(h0, .inr (7, [.int i_thrown, .int i_down, .int i_lasts, v_buffer, .int i_size, .int i_documents, v_gone, v_first, v_many, v_lengths, v_authors, v_sums, .ref hrow, .ref hmade, .int (nI k), .ref hbase, .int (nI kb), v_text, .int i_textSize, .int i_textSteps, v_other, .int i_otherSize, v_piece, .int i_pieceSize, .int (nI (a2_2)), .int (nI en), .int (nI hv)])), (hmade, .inl (cM, 256, .inl (f))), (hbase, .inl (cB, 256, .inl (fb))), (hrow, .inl (cW, 16384, .inl (fr)))]) [2, 0, 1, 3] (by decide) rfl
        have hK9 := hK.sub (tys' := [(cM, .byte), (cB, .byte), (cW, .byte)]) [0, 1, 2] rfl
        exact W.zret (v := 0) (ty := .boolean) hx hb hr rfl (fun t ht hW => ⟨⟨0, (), rfl, (by rw [(show cmd S Bs T a = none from by first | exact cmd_0 hq9 | exact cmd_1 hq9 (Or.inl hz9) | exact cmd_1 hq9 (Or.inr (by rw [htt.1]; omega)) | (by_cases hb8 : hv / 2 = 0 ∨ 256 < T.length + hv / 2; exact cmd_1 hq9 hb8; first | exact cmd_3 hq9 hb8 hod hq8 | (rw [cmd_4 hq9 hb8 hod hq8]; exact if_pos (by rw [htb.1]; omega)) | (rw [cmd_2 hq9 hb8 hev]; exact if_pos (by omega))))]; rfl), (a2_2 - b0), (a2_2), k, f, T, (nI hv), ⟨⟨htt, hk, (by omega), (by omega)⟩, cmR_n (show cmd S Bs T a = none from by first | exact cmd_0 hq9 | exact cmd_1 hq9 (Or.inl hz9) | exact cmd_1 hq9 (Or.inr (by rw [htt.1]; omega)) | (by_cases hb8 : hv / 2 = 0 ∨ 256 < T.length + hv / 2; exact cmd_1 hq9 hb8; first | exact cmd_3 hq9 hb8 hod hq8 | (rw [cmd_4 hq9 hb8 hod hq8]; exact if_pos (by rw [htb.1]; omega)) | (rw [cmd_2 hq9 hb8 hev]; exact if_pos (by omega))))⟩, by rw [ht]; exact hP9, va_K.moved hW.alike hK9, hD9⟩, hS.F ht⟩) hS.2.2 d_O_command_99
      · have hz8 : ¬ hv / 2 = 0 := (fun z => c_9 (by rw [z]; rfl))
        refine lv_aload_n hx hb d_O_command_65 rfl (lv_at hl 3 rfl) ?_
        refine va_get (D := (dC, dI)) (ci := 7) (v := .int (nI k)) (C := R_O) (T := F_O) (N := 27) hx hb hw0 in_O hown hK hP 2 rfl rfl 14 (by decide) (hw0 (.fieldLink R_O 113 "TextKeeperModel" "madeSize" "I") wm_246) (fun _ h9 => h9) rfl d_O_command_66 ?_
        refine lv_iload_n hx hb d_O_command_69 rfl (lv_at hl 2 rfl) ?_
        refine lv_iadd hx hb d_O_command_70 ?_
        refine lv_topi (fun x_10 ex_10 => ?_)
        obtain rfl : x_10 = (nI (k + hv / 2)) := by rw [ex_10]; exact nI_add _ _
        clear ex_10
        refine lv_sipush (v := 256) hx hb d_O_command_71 (by decide +kernel) ?_
        refine lv_icmp_gt (tgt := 98) hx hb d_O_command_74 (by decide) (fun c_11 => ?_) (fun c_11 => ?_)
        · have hg9 : 256 < k + hv / 2 := (nI_ltI (by decide) (by omega)).mp c_11
          refine lv_iconst (v := 0) hx hb d_O_command_98 (by decide) ?_
          have hP9 := hP.sub (ws' := [(h0, .inr (7, [.int i_thrown, .int i_down, .int i_lasts, v_buffer, .int i_size, .int i_documents, v_gone, v_first, v_many, v_lengths, v_authors, v_sums, .ref hrow, .ref hmade, .int (nI k), .ref hbase, .int (nI kb), v_text, .int i_textSize, .int i_textSteps, v_other, .int i_otherSize, v_piece, .int i_pieceSize, .int (nI (a2_2)), .int (nI en), .int (nI hv)])), (hmade, .inl (cM, 256, .inl (f))), (hbase, .inl (cB, 256, .inl (fb))), (hrow, .inl (cW, 16384, .inl (fr)))]) [2, 0, 1, 3] rfl
          have hD9 := hD.sub (ws' := [(h0, .inr (7, [.int i_thrown, .int i_down, .int i_lasts, v_buffer, .int i_size, .int i_documents, v_gone, v_first, v_many, v_lengths, v_authors, v_sums, .ref hrow, .ref hmade, .int (nI k), .ref hbase, .int (nI kb), v_text, .int i_textSize, .int i_textSteps, v_other, .int i_otherSize, v_piece, .int i_pieceSize, .int (nI (a2_2)), .int (nI en), .int (nI hv)])), (hmade, .inl (cM, 256, .inl (f))), (hbase, .inl (cB, 256, .inl (fb))), (hrow, .inl (cW, 16384, .inl (fr)))]) [2, 0, 1, 3] (by decide) rfl
          have hK9 := hK.sub (tys' := [(cM, .byte), (cB, .byte), (cW, .byte)]) [0, 1, 2] rfl
          exact W.zret (v := 0) (ty := .boolean) hx hb hr rfl (fun t ht hW => ⟨⟨0, (), rfl, (by rw [(show cmd S Bs T a = none from by first | exact cmd_0 hq9 | exact cmd_1 hq9 (Or.inl hz9) | exact cmd_1 hq9 (Or.inr (by rw [htt.1]; omega)) | (by_cases hb8 : hv / 2 = 0 ∨ 256 < T.length + hv / 2; exact cmd_1 hq9 hb8; first | exact cmd_3 hq9 hb8 hod hq8 | (rw [cmd_4 hq9 hb8 hod hq8]; exact if_pos (by rw [htb.1]; omega)) | (rw [cmd_2 hq9 hb8 hev]; exact if_pos (by omega))))]; rfl), (a2_2 - b0), (a2_2), k, f, T, (nI hv), ⟨⟨htt, hk, (by omega), (by omega)⟩, cmR_n (show cmd S Bs T a = none from by first | exact cmd_0 hq9 | exact cmd_1 hq9 (Or.inl hz9) | exact cmd_1 hq9 (Or.inr (by rw [htt.1]; omega)) | (by_cases hb8 : hv / 2 = 0 ∨ 256 < T.length + hv / 2; exact cmd_1 hq9 hb8; first | exact cmd_3 hq9 hb8 hod hq8 | (rw [cmd_4 hq9 hb8 hod hq8]; exact if_pos (by rw [htb.1]; omega)) | (rw [cmd_2 hq9 hb8 hev]; exact if_pos (by omega))))⟩, by rw [ht]; exact hP9, va_K.moved hW.alike hK9, hD9⟩, hS.F ht⟩) hS.2.2 d_O_command_99
        · have hg8 : k + hv / 2 ≤ 256 := (by rcases Nat.lt_or_ge 256 (k + hv / 2) with z | z; exact absurd (nI_lt z (by omega)) c_11; exact z)
          refine lv_iload_n hx hb d_O_command_77 rfl (lv_at hl 0 rfl) ?_
          refine lv_iload_n hx hb d_O_command_78 rfl (lv_at hl 2 rfl) ?_
          refine lv_iadd hx hb d_O_command_79 ?_
          refine lv_topi (fun x_12 ex_12 => ?_)
          obtain rfl : x_12 = (nI (a2_2 + hv / 2)) := by rw [ex_12]; exact nI_add _ _
          clear ex_12
          refine lv_iload_n hx hb d_O_command_80 rfl (lv_at hl 1 rfl) ?_
          refine lv_if_eq (tgt := 91) hx hb d_O_command_81 (by decide) (fun _ => ?_) (fun h9 => absurd h9 (by decide +kernel))
          refine lv_aload_n hx hb d_O_command_91 rfl (lv_at hl 3 rfl) ?_
          refine va_get (D := (dC, dI)) (ci := 7) (v := .int (nI en)) (C := R_O) (T := F_O) (N := 27) hx hb hw0 in_O hown hK hP 2 rfl rfl 25 (by decide) (hw0 (.fieldLink R_O 106 "TextKeeperModel" "end" "I") wm_263) (fun _ h9 => h9) rfl d_O_command_92 ?_
          refine lv_icmp_le (tgt := 100) hx hb d_O_command_95 (by decide) (fun c_13 => ?_) (fun c_13 => ?_)
          · have hm8 := (nI_leI (by omega) (by omega)).mp c_13
            refine lv_iconst (v := 0) hx hb d_O_command_100 (by decide) ?_
            refine lv_istore (lv' := [(4, .int 0), (3, .int (nI a2_2)), (2, .int 0), (1, .int (nI (hv / 2))), (0, .ref h0)]) hx hb d_O_command_101 hl (by decide) rfl (fun ls hl => ?_)
            refine lo_cmi h0 i_thrown i_down i_lasts v_buffer i_size i_documents v_gone v_first v_many v_lengths v_authors v_sums v_text i_textSize i_textSteps v_other i_otherSize v_piece i_pieceSize (nI hv) hmade cM k hbase cB kb fb Bs hrow cW fr S a2_2 en b0 T (rd S a).2 (hv / 2) a2_2 htb hsx hk hkb hen (by omega) (by omega) (by omega) hx hb hml hown hw0 hN (hK.sub (tys' := [(cM, .byte), (cB, .byte), (cW, .byte)]) [0, 1, 2] rfl) hA (fun f9 hf9 H locs hP hD hS ls hl => ?_) (hv / 2 + 1) 0 (by omega) (by omega) f (by rw [List.take_zero, List.append_nil]; exact htt) _ _ (hP.sub (ws' := [(h0, .inr (7, [.int i_thrown, .int i_down, .int i_lasts, v_buffer, .int i_size, .int i_documents, v_gone, v_first, v_many, v_lengths, v_authors, v_sums, .ref hrow, .ref hmade, .int (nI (k + 0)), .ref hbase, .int (nI kb), v_text, .int i_textSize, .int i_textSteps, v_other, .int i_otherSize, v_piece, .int i_pieceSize, .int (nI a2_2), .int (nI en), .int (nI hv)])), (hmade, .inl (cM, 256, .inl (f))), (hbase, .inl (cB, 256, .inl (fb))), (hrow, .inl (cW, 16384, .inl (fr)))]) [2, 0, 1, 3] rfl) (hD.sub (ws' := [(h0, .inr (7, [.int i_thrown, .int i_down, .int i_lasts, v_buffer, .int i_size, .int i_documents, v_gone, v_first, v_many, v_lengths, v_authors, v_sums, .ref hrow, .ref hmade, .int (nI (k + 0)), .ref hbase, .int (nI kb), v_text, .int i_textSize, .int i_textSteps, v_other, .int i_otherSize, v_piece, .int i_pieceSize, .int (nI a2_2), .int (nI en), .int (nI hv)])), (hmade, .inl (cM, 256, .inl (f))), (hbase, .inl (cB, 256, .inl (fb))), (hrow, .inl (cW, 16384, .inl (fr)))]) [2, 0, 1, 3] (by decide) rfl) hS ls (lv_sub hl [0, 4, 3, 2, 1] rfl)
            replace hK := hK.sub (tys' := [(cM, .byte), (cB, .byte), (cW, .byte)]) [0, 1, 2] rfl
            refine lv_aload_n hx hb d_O_command_159 rfl (lv_at hl 1 rfl) ?_
            refine lv_iload_n hx hb d_O_command_160 rfl (lv_at hl 3 rfl) ?_
            refine lv_if_eq (tgt := 171) hx hb d_O_command_161 (by decide) (fun _ => ?_) (fun h9 => absurd h9 (by decide +kernel))
            refine lv_aload_n hx hb d_O_command_171 rfl (lv_at hl 1 rfl) ?_
            refine va_get (D := (dC, dI)) (ci := 7) (v := .int (nI a2_2)) (C := R_O) (T := F_O) (N := 27) hx hb hw0 in_O hown hK hP 0 rfl rfl 24 (by decide) (hw0 (.fieldLink R_O 103 "TextKeeperModel" "at" "I") wm_262) (fun _ h9 => h9) rfl d_O_command_172 ?_
            refine lv_iload_n hx hb d_O_command_175 rfl (lv_at hl 2 rfl) ?_
            refine lv_iadd hx hb d_O_command_176 ?_
            refine lv_topi (fun x_14 ex_14 => ?_)
            obtain rfl : x_14 = (nI (a2_2 + hv / 2)) := by rw [ex_14]; exact nI_add _ _
            clear ex_14
            refine va_put (D := (dC, dI)) (ci := 7) (v := .int (nI (a2_2 + hv / 2))) (ty := .int) (C := R_O) (T := F_O) (N := 27) hx hb hw0 in_O ft_O tk_O nk_O hown hK hP hD hS 0 rfl rfl 24 (by decide) (hw0 (.fieldLink R_O 103 "TextKeeperModel" "at" "I") wm_262) (fun _ h9 => h9) rfl (by decide +kernel) rfl rfl (Nat.le_of_ble_eq_true rfl) d_O_command_177 (fun H locs hP hD hS => ?_)
            replace hP : va_P (dC, dI) vwCl [(h0, .inr (7, [.int i_thrown, .int i_down, .int i_lasts, v_buffer, .int i_size, .int i_documents, v_gone, v_first, v_many, v_lengths, v_authors, v_sums, .ref hrow, .ref hmade, .int (nI (k + hv / 2)), .ref hbase, .int (nI kb), v_text, .int i_textSize, .int i_textSteps, v_other, .int i_otherSize, v_piece, .int i_pieceSize, .int (nI (a2_2 + hv / 2)), .int (nI en), .int (nI hv)])), (hmade, .inl (cM, 256, .inl (f9))), (hbase, .inl (cB, 256, .inl (fb))), (hrow, .inl (cW, 16384, .inl (fr)))] H := hP
            replace hD : va_D A [(h0, .inr (7, [.int i_thrown, .int i_down, .int i_lasts, v_buffer, .int i_size, .int i_documents, v_gone, v_first, v_many, v_lengths, v_authors, v_sums, .ref hrow, .ref hmade, .int (nI (k + hv / 2)), .ref hbase, .int (nI kb), v_text, .int i_textSize, .int i_textSteps, v_other, .int i_otherSize, v_piece, .int i_pieceSize, .int (nI (a2_2 + hv / 2)), .int (nI en), .int (nI hv)])), (hmade, .inl (cM, 256, .inl (f9))), (hbase, .inl (cB, 256, .inl (fb))), (hrow, .inl (cW, 16384, .inl (fr)))] := hD
            refine lv_iconst (v := 1) hx hb d_O_command_180 (by decide) ?_
            have hP9 := hP.sub (ws' := [(h0, .inr (7, [.int i_thrown, .int i_down, .int i_lasts, v_buffer, .int i_size, .int i_documents, v_gone, v_first, v_many, v_lengths, v_authors, v_sums, .ref hrow, .ref hmade, .int (nI (k + hv / 2)), .ref hbase, .int (nI kb), v_text, .int i_textSize, .int i_textSteps, v_other, .int i_otherSize, v_piece, .int i_pieceSize, .int (nI (a2_2 + hv / 2)), .int (nI en), .int (nI hv)])), (hmade, .inl (cM, 256, .inl (f9))), (hbase, .inl (cB, 256, .inl (fb))), (hrow, .inl (cW, 16384, .inl (fr)))]) [0, 1, 2, 3] rfl
            have hD9 := hD.sub (ws' := [(h0, .inr (7, [.int i_thrown, .int i_down, .int i_lasts, v_buffer, .int i_size, .int i_documents, v_gone, v_first, v_many, v_lengths, v_authors, v_sums, .ref hrow, .ref hmade, .int (nI (k + hv / 2)), .ref hbase, .int (nI kb), v_text, .int i_textSize, .int i_textSteps, v_other, .int i_otherSize, v_piece, .int i_pieceSize, .int (nI (a2_2 + hv / 2)), .int (nI en), .int (nI hv)])), (hmade, .inl (cM, 256, .inl (f9))), (hbase, .inl (cB, 256, .inl (fb))), (hrow, .inl (cW, 16384, .inl (fr)))]) [0, 1, 2, 3] (by decide) rfl
            have hK9 := hK.sub (tys' := [(cM, .byte), (cB, .byte), (cW, .byte)]) [0, 1, 2] rfl
            exact W.zret (v := 1) (ty := .boolean) hx hb hr rfl (fun t ht hW => ⟨⟨1, (), rfl, (by rw [(show cmd S Bs T a = some _ from by rw [cmd_2 hq9 (by rw [htt.1]; omega) hev, if_neg (by omega)])]; rfl), ((rd S a).2 + hv / 2), (a2_2 + hv / 2), (k + hv / 2), f9, (T ++ (S.drop (rd S a).2).take (hv / 2)), (nI hv), ⟨⟨hf9, (by omega), (by omega), (by omega)⟩, cmR_s (show cmd S Bs T a = some _ from by rw [cmd_2 hq9 (by rw [htt.1]; omega) hev, if_neg (by omega)])⟩, by rw [ht]; exact hP9, va_K.moved hW.alike hK9, hD9⟩, hS.F ht⟩) hS.2.2 d_O_command_181
          · have hm9 := mt (nI_leI (by omega) (by omega)).mpr c_13
            refine lv_iconst (v := 0) hx hb d_O_command_98 (by decide) ?_
            have hP9 := hP.sub (ws' := [(h0, .inr (7, [.int i_thrown, .int i_down, .int i_lasts, v_buffer, .int i_size, .int i_documents, v_gone, v_first, v_many, v_lengths, v_authors, v_sums, .ref hrow, .ref hmade, .int (nI k), .ref hbase, .int (nI kb), v_text, .int i_textSize, .int i_textSteps, v_other, .int i_otherSize, v_piece, .int i_pieceSize, .int (nI (a2_2)), .int (nI en), .int (nI hv)])), (hmade, .inl (cM, 256, .inl (f))), (hbase, .inl (cB, 256, .inl (fb))), (hrow, .inl (cW, 16384, .inl (fr)))]) [2, 0, 1, 3] rfl
            have hD9 := hD.sub (ws' := [(h0, .inr (7, [.int i_thrown, .int i_down, .int i_lasts, v_buffer, .int i_size, .int i_documents, v_gone, v_first, v_many, v_lengths, v_authors, v_sums, .ref hrow, .ref hmade, .int (nI k), .ref hbase, .int (nI kb), v_text, .int i_textSize, .int i_textSteps, v_other, .int i_otherSize, v_piece, .int i_pieceSize, .int (nI (a2_2)), .int (nI en), .int (nI hv)])), (hmade, .inl (cM, 256, .inl (f))), (hbase, .inl (cB, 256, .inl (fb))), (hrow, .inl (cW, 16384, .inl (fr)))]) [2, 0, 1, 3] (by decide) rfl
            have hK9 := hK.sub (tys' := [(cM, .byte), (cB, .byte), (cW, .byte)]) [0, 1, 2] rfl
            exact W.zret (v := 0) (ty := .boolean) hx hb hr rfl (fun t ht hW => ⟨⟨0, (), rfl, (by rw [(show cmd S Bs T a = none from by first | exact cmd_0 hq9 | exact cmd_1 hq9 (Or.inl hz9) | exact cmd_1 hq9 (Or.inr (by rw [htt.1]; omega)) | (by_cases hb8 : hv / 2 = 0 ∨ 256 < T.length + hv / 2; exact cmd_1 hq9 hb8; first | exact cmd_3 hq9 hb8 hod hq8 | (rw [cmd_4 hq9 hb8 hod hq8]; exact if_pos (by rw [htb.1]; omega)) | (rw [cmd_2 hq9 hb8 hev]; exact if_pos (by omega))))]; rfl), (a2_2 - b0), (a2_2), k, f, T, (nI hv), ⟨⟨htt, hk, (by omega), (by omega)⟩, cmR_n (show cmd S Bs T a = none from by first | exact cmd_0 hq9 | exact cmd_1 hq9 (Or.inl hz9) | exact cmd_1 hq9 (Or.inr (by rw [htt.1]; omega)) | (by_cases hb8 : hv / 2 = 0 ∨ 256 < T.length + hv / 2; exact cmd_1 hq9 hb8; first | exact cmd_3 hq9 hb8 hod hq8 | (rw [cmd_4 hq9 hb8 hod hq8]; exact if_pos (by rw [htb.1]; omega)) | (rw [cmd_2 hq9 hb8 hev]; exact if_pos (by omega))))⟩, by rw [ht]; exact hP9, va_K.moved hW.alike hK9, hD9⟩, hS.F ht⟩) hS.2.2 d_O_command_99
    · have hod : ¬ hv % 2 = 0 := (by have h8 := (nI_eq (a := hv % 2) (b := 1) (by omega) (by decide)).mp c_8; omega)
      refine lv_iconst (v := 1) hx hb d_O_command_26 (by decide) ?_
      refine lv_goto (tgt := 31) hx hb d_O_command_27 (by decide) ?_
      refine lv_istore_n (lv' := [(2, .int 1), (1, .int (nI (hv / 2))), (0, .ref h0)]) hx hb d_O_command_31 rfl hl (by decide) rfl (fun ls hl => ?_)
      refine lv_iload_n hx hb d_O_command_32 rfl (lv_at hl 0 rfl) ?_
      refine lv_if_eq (tgt := 45) hx hb d_O_command_33 (by decide) (fun h9 => absurd h9 (by decide +kernel)) (fun _ => ?_)
      refine lv_aload_n hx hb d_O_command_36 rfl (lv_at hl 2 rfl) ?_
      have hPc := hP.sub (ws' := [(h0, .inr (7, [.int i_thrown, .int i_down, .int i_lasts, v_buffer, .int i_size, .int i_documents, v_gone, v_first, v_many, v_lengths, v_authors, v_sums, .ref hrow, .ref hmade, .int (nI k), .ref hbase, .int (nI kb), v_text, .int i_textSize, .int i_textSteps, v_other, .int i_otherSize, v_piece, .int i_pieceSize, .int (nI a2_2), .int (nI en), .int (nI hv)])), (hrow, .inl (cW, 16384, .inl (((fr)))))]) [2, 3] rfl
      have hKc := hK.sub (tys' := [(cW, .byte)]) [2] rfl
      have hDc := hD.sub (ws' := [(h0, .inr (7, [.int i_thrown, .int i_down, .int i_lasts, v_buffer, .int i_size, .int i_documents, v_gone, v_first, v_many, v_lengths, v_authors, v_sums, .ref hrow, .ref hmade, .int (nI k), .ref hbase, .int (nI kb), v_text, .int i_textSize, .int i_textSteps, v_other, .int i_otherSize, v_piece, .int i_pieceSize, .int (nI a2_2), .int (nI en), .int (nI hv)])), (hrow, .inl (cW, 16384, .inl (((fr)))))]) [2, 3] (by decide) rfl
      have hFc := va_free (wc := [(h0, .inr (7, [.int i_thrown, .int i_down, .int i_lasts, v_buffer, .int i_size, .int i_documents, v_gone, v_first, v_many, v_lengths, v_authors, v_sums, .ref hrow, .ref hmade, .int (nI k), .ref hbase, .int (nI kb), v_text, .int i_textSize, .int i_textSteps, v_other, .int i_otherSize, v_piece, .int i_pieceSize, .int (nI a2_2), .int (nI en), .int (nI hv)])), (hrow, .inl (cW, 16384, .inl (((fr)))))]) hD hS hA [2, 3] rfl
      refine va_calli (va_runV (As := []) (rest := []) ⟨hx, hb, hml, hown, hw0⟩ (o_number l dC dI H.size h0 i_thrown i_down i_lasts v_buffer i_size i_documents v_gone v_first v_many v_lengths v_authors v_sums (.ref hmade) (nI k) (.ref hbase) (nI kb) v_text i_textSize i_textSteps v_other i_otherSize v_piece i_pieceSize (nI hv) hrow cW ((fr)) _ a2_2 en _ _ (by first | assumption | decide | omega) (by first | assumption | decide | omega) (by first | assumption | decide | omega) (by first | assumption | decide | omega)) (cwV 0 hw0 (gd_Vm wm_284 wm_285 wm_286 wm_243 wm_287) rfl rfl rfl (by decide +kernel) ⟨by decide +kernel, by decide +kernel⟩) (prV_E hPc hKc hDc hN (va_recv hKc hPc (ci := 7) (q0 := 0) rfl rfl)) rfl rfl hl.1 rfl (lv_room (Nat.le_of_ble_eq_true rfl)) d_O_command_37 ⟨by decide +kernel, by decide +kernel⟩) hS (fun q _ h => hFc q h) hFc (fun r_15 u t H1 locs ht hvm hw hB hz1 hk1 hS => ?_)
      obtain ⟨a2_16, vv_17, ⟨hu_18_0, hu_18_1⟩, hP1, hK1, hD1⟩ := hB
      rw [ht] at hP1
      have hK1 := va_K.moved hvm.symm hK1
      try dsimp only at hw
      obtain ⟨hP, hD⟩ := va_join (wr := [(hmade, .inl (cM, 256, .inl (f))), (hbase, .inl (cB, 256, .inl (fb)))]) (w1 := [(h0, .inr (7, [.int i_thrown, .int i_down, .int i_lasts, v_buffer, .int i_size, .int i_documents, v_gone, v_first, v_many, v_lengths, v_authors, v_sums, .ref hrow, .ref hmade, .int (nI k), .ref hbase, .int (nI kb), v_text, .int i_textSize, .int i_textSteps, v_other, .int i_otherSize, v_piece, .int i_pieceSize, .int (nI a2_16), .int (nI en), .int vv_17])), (hrow, .inl (cW, 16384, .inl (((fr)))))]) hP hD [2, 3] [0, 1] rfl rfl (by decide) (by decide) hk1 hFc hP1 hD1
      generalize H1 = H at hP hS ⊢
      replace hP : va_P (dC, dI) vwCl [(hmade, .inl (cM, 256, .inl (f))), (hbase, .inl (cB, 256, .inl (fb))), (h0, .inr (7, [.int i_thrown, .int i_down, .int i_lasts, v_buffer, .int i_size, .int i_documents, v_gone, v_first, v_many, v_lengths, v_authors, v_sums, .ref hrow, .ref hmade, .int (nI k), .ref hbase, .int (nI kb), v_text, .int i_textSize, .int i_textSteps, v_other, .int i_otherSize, v_piece, .int i_pieceSize, .int (nI a2_16), .int (nI en), .int vv_17])), (hrow, .inl (cW, 16384, .inl (((fr)))))] H := hP
      replace hD : va_D A [(hmade, .inl (cM, 256, .inl (f))), (hbase, .inl (cB, 256, .inl (fb))), (h0, .inr (7, [.int i_thrown, .int i_down, .int i_lasts, v_buffer, .int i_size, .int i_documents, v_gone, v_first, v_many, v_lengths, v_authors, v_sums, .ref hrow, .ref hmade, .int (nI k), .ref hbase, .int (nI kb), v_text, .int i_textSize, .int i_textSteps, v_other, .int i_otherSize, v_piece, .int i_pieceSize, .int (nI a2_16), .int (nI en), .int vv_17])), (hrow, .inl (cW, 16384, .inl (((fr)))))] := hD
      replace hK : va_K (dC, dI) vwCl [(cM, .byte), (cB, .byte), (cW, .byte)] s := hK
      have hw_19 := hw
      have ha3 : (rd S (rd S a).2).2 ≤ S.length := rd_le ha2
      rcases hq8 : (rd S (rd S a).2).1 with _ | pd
      · rw [hq8] at hw_19; obtain rfl : r_15 = 0 := hw_19
        refine lv_if_ne (tgt := 45) hx hb d_O_command_40 (by decide) (fun h9 => absurd h9 (by decide +kernel)) (fun _ => ?_)
        refine lv_iconst (v := 0) hx hb d_O_command_43 (by decide) ?_
        have hP9 := hP.sub (ws' := [(h0, .inr (7, [.int i_thrown, .int i_down, .int i_lasts, v_buffer, .int i_size, .int i_documents, v_gone, v_first, v_many, v_lengths, v_authors, v_sums, .ref hrow, .ref hmade, .int (nI k), .ref hbase, .int (nI kb), v_text, .int i_textSize, .int i_textSteps, v_other, .int i_otherSize, v_piece, .int i_pieceSize, .int (nI (a2_16)), .int (nI en), .int vv_17])), (hmade, .inl (cM, 256, .inl (f))), (hbase, .inl (cB, 256, .inl (fb))), (hrow, .inl (cW, 16384, .inl (fr)))]) [2, 0, 1, 3] rfl
        have hD9 := hD.sub (ws' := [(h0, .inr (7, [.int i_thrown, .int i_down, .int i_lasts, v_buffer, .int i_size, .int i_documents, v_gone, v_first, v_many, v_lengths, v_authors, v_sums, .ref hrow, .ref hmade, .int (nI k), .ref hbase, .int (nI kb), v_text, .int i_textSize, .int i_textSteps, v_other, .int i_otherSize, v_piece, .int i_pieceSize, .int (nI (a2_16)), .int (nI en), .int vv_17])), (hmade, .inl (cM, 256, .inl (f))), (hbase, .inl (cB, 256, .inl (fb))), (hrow, .inl (cW, 16384, .inl (fr)))]) [2, 0, 1, 3] (by decide) rfl
        have hK9 := hK.sub (tys' := [(cM, .byte), (cB, .byte), (cW, .byte)]) [0, 1, 2] rfl
        exact W.zret (v := 0) (ty := .boolean) hx hb hr rfl (fun t ht hW => ⟨⟨0, (), rfl, (by rw [(show cmd S Bs T a = none from by first | exact cmd_0 hq9 | exact cmd_1 hq9 (Or.inl hz9) | exact cmd_1 hq9 (Or.inr (by rw [htt.1]; omega)) | (by_cases hb8 : hv / 2 = 0 ∨ 256 < T.length + hv / 2; exact cmd_1 hq9 hb8; first | exact cmd_3 hq9 hb8 hod hq8 | (rw [cmd_4 hq9 hb8 hod hq8]; exact if_pos (by rw [htb.1]; omega)) | (rw [cmd_2 hq9 hb8 hev]; exact if_pos (by omega))))]; rfl), (a2_16 - b0), (a2_16), k, f, T, vv_17, ⟨⟨htt, hk, (by omega), (by omega)⟩, cmR_n (show cmd S Bs T a = none from by first | exact cmd_0 hq9 | exact cmd_1 hq9 (Or.inl hz9) | exact cmd_1 hq9 (Or.inr (by rw [htt.1]; omega)) | (by_cases hb8 : hv / 2 = 0 ∨ 256 < T.length + hv / 2; exact cmd_1 hq9 hb8; first | exact cmd_3 hq9 hb8 hod hq8 | (rw [cmd_4 hq9 hb8 hod hq8]; exact if_pos (by rw [htb.1]; omega)) | (rw [cmd_2 hq9 hb8 hev]; exact if_pos (by omega))))⟩, by rw [ht]; exact hP9, va_K.moved hW.alike hK9, hD9⟩, hS.F ht⟩) hS.2.2 d_O_command_44
      · rw [hq8] at hw_19; obtain rfl : r_15 = 1 := hw_19; obtain rfl : vv_17 = nI pd := hu_18_1 pd hq8; have hd_pd := (rd_some hq8).1
        refine lv_if_ne (tgt := 45) hx hb d_O_command_40 (by decide) (fun _ => ?_) (fun h9 => absurd h9 (by decide +kernel))
        refine lv_iload_n hx hb d_O_command_45 rfl (lv_at hl 0 rfl) ?_
        refine lv_if_eq (tgt := 56) hx hb d_O_command_46 (by decide) (fun h9 => absurd h9 (by decide +kernel)) (fun _ => ?_)
        refine lv_aload_n hx hb d_O_command_49 rfl (lv_at hl 2 rfl) ?_
        refine va_get (D := (dC, dI)) (ci := 7) (v := .int (nI pd)) (C := R_O) (T := F_O) (N := 27) hx hb hw0 in_O hown hK hP 2 rfl rfl 26 (by decide) (hw0 (.fieldLink R_O 100 "TextKeeperModel" "value" "I") wm_261) (fun _ h9 => h9) rfl d_O_command_50 ?_
        refine lv_goto (tgt := 60) hx hb d_O_command_53 (by decide) ?_
        refine lv_istore_n (lv' := [(3, .int (nI pd)), (2, .int 1), (1, .int (nI (hv / 2))), (0, .ref h0)]) hx hb d_O_command_60 rfl hl (by decide) rfl (fun ls hl => ?_)
        refine lv_iload_n hx hb d_O_command_61 rfl (lv_at hl 2 rfl) ?_
        refine lv_if_eq (tgt := 98) hx hb d_O_command_62 (by decide) (fun c_20 => ?_) (fun c_20 => ?_)
        · have hz9 : hv / 2 = 0 := (by rcases Nat.eq_zero_or_pos (hv / 2) with z | z; exact z; exact absurd c_20 (nI_ne0 z (by omega)))
          refine lv_iconst (v := 0) hx hb d_O_command_98 (by decide) ?_
          have hP9 := hP.sub (ws' := [(h0, .inr (7, [.int i_thrown, .int i_down, .int i_lasts, v_buffer, .int i_size, .int i_documents, v_gone, v_first, v_many, v_lengths, v_authors, v_sums, .ref hrow, .ref hmade, .int (nI k), .ref hbase, .int (nI kb), v_text, .int i_textSize, .int i_textSteps, v_other, .int i_otherSize, v_piece, .int i_pieceSize, .int (nI (a2_16)), .int (nI en), .int (nI pd)])), (hmade, .inl (cM, 256, .inl (f))), (hbase, .inl (cB, 256, .inl (fb))), (hrow, .inl (cW, 16384, .inl (fr)))]) [2, 0, 1, 3] rfl
          have hD9 := hD.sub (ws' := [(h0, .inr (7, [.int i_thrown, .int i_down, .int i_lasts, v_buffer, .int i_size, .int i_documents, v_gone, v_first, v_many, v_lengths, v_authors, v_sums, .ref hrow, .ref hmade, .int (nI k), .ref hbase, .int (nI kb), v_text, .int i_textSize, .int i_textSteps, v_other, .int i_otherSize, v_piece, .int i_pieceSize, .int (nI (a2_16)), .int (nI en), .int (nI pd)])), (hmade, .inl (cM, 256, .inl (f))), (hbase, .inl (cB, 256, .inl (fb))), (hrow, .inl (cW, 16384, .inl (fr)))]) [2, 0, 1, 3] (by decide) rfl
          have hK9 := hK.sub (tys' := [(cM, .byte), (cB, .byte), (cW, .byte)]) [0, 1, 2] rfl
          exact W.zret (v := 0) (ty := .boolean) hx hb hr rfl (fun t ht hW => ⟨⟨0, (), rfl, (by rw [(show cmd S Bs T a = none from by first | exact cmd_0 hq9 | exact cmd_1 hq9 (Or.inl hz9) | exact cmd_1 hq9 (Or.inr (by rw [htt.1]; omega)) | (by_cases hb8 : hv / 2 = 0 ∨ 256 < T.length + hv / 2; exact cmd_1 hq9 hb8; first | exact cmd_3 hq9 hb8 hod hq8 | (rw [cmd_4 hq9 hb8 hod hq8]; exact if_pos (by rw [htb.1]; omega)) | (rw [cmd_2 hq9 hb8 hev]; exact if_pos (by omega))))]; rfl), (a2_16 - b0), (a2_16), k, f, T, (nI pd), ⟨⟨htt, hk, (by omega), (by omega)⟩, cmR_n (show cmd S Bs T a = none from by first | exact cmd_0 hq9 | exact cmd_1 hq9 (Or.inl hz9) | exact cmd_1 hq9 (Or.inr (by rw [htt.1]; omega)) | (by_cases hb8 : hv / 2 = 0 ∨ 256 < T.length + hv / 2; exact cmd_1 hq9 hb8; first | exact cmd_3 hq9 hb8 hod hq8 | (rw [cmd_4 hq9 hb8 hod hq8]; exact if_pos (by rw [htb.1]; omega)) | (rw [cmd_2 hq9 hb8 hev]; exact if_pos (by omega))))⟩, by rw [ht]; exact hP9, va_K.moved hW.alike hK9, hD9⟩, hS.F ht⟩) hS.2.2 d_O_command_99
        · have hz8 : ¬ hv / 2 = 0 := (fun z => c_20 (by rw [z]; rfl))
          refine lv_aload_n hx hb d_O_command_65 rfl (lv_at hl 3 rfl) ?_
          refine va_get (D := (dC, dI)) (ci := 7) (v := .int (nI k)) (C := R_O) (T := F_O) (N := 27) hx hb hw0 in_O hown hK hP 2 rfl rfl 14 (by decide) (hw0 (.fieldLink R_O 113 "TextKeeperModel" "madeSize" "I") wm_246) (fun _ h9 => h9) rfl d_O_command_66 ?_
          refine lv_iload_n hx hb d_O_command_69 rfl (lv_at hl 2 rfl) ?_
          refine lv_iadd hx hb d_O_command_70 ?_
          refine lv_topi (fun x_21 ex_21 => ?_)
          obtain rfl : x_21 = (nI (k + hv / 2)) := by rw [ex_21]; exact nI_add _ _
          clear ex_21
          refine lv_sipush (v := 256) hx hb d_O_command_71 (by decide +kernel) ?_
          refine lv_icmp_gt (tgt := 98) hx hb d_O_command_74 (by decide) (fun c_22 => ?_) (fun c_22 => ?_)
          · have hg9 : 256 < k + hv / 2 := (nI_ltI (by decide) (by omega)).mp c_22
            refine lv_iconst (v := 0) hx hb d_O_command_98 (by decide) ?_
            have hP9 := hP.sub (ws' := [(h0, .inr (7, [.int i_thrown, .int i_down, .int i_lasts, v_buffer, .int i_size, .int i_documents, v_gone, v_first, v_many, v_lengths, v_authors, v_sums, .ref hrow, .ref hmade, .int (nI k), .ref hbase, .int (nI kb), v_text, .int i_textSize, .int i_textSteps, v_other, .int i_otherSize, v_piece, .int i_pieceSize, .int (nI (a2_16)), .int (nI en), .int (nI pd)])), (hmade, .inl (cM, 256, .inl (f))), (hbase, .inl (cB, 256, .inl (fb))), (hrow, .inl (cW, 16384, .inl (fr)))]) [2, 0, 1, 3] rfl
            have hD9 := hD.sub (ws' := [(h0, .inr (7, [.int i_thrown, .int i_down, .int i_lasts, v_buffer, .int i_size, .int i_documents, v_gone, v_first, v_many, v_lengths, v_authors, v_sums, .ref hrow, .ref hmade, .int (nI k), .ref hbase, .int (nI kb), v_text, .int i_textSize, .int i_textSteps, v_other, .int i_otherSize, v_piece, .int i_pieceSize, .int (nI (a2_16)), .int (nI en), .int (nI pd)])), (hmade, .inl (cM, 256, .inl (f))), (hbase, .inl (cB, 256, .inl (fb))), (hrow, .inl (cW, 16384, .inl (fr)))]) [2, 0, 1, 3] (by decide) rfl
            have hK9 := hK.sub (tys' := [(cM, .byte), (cB, .byte), (cW, .byte)]) [0, 1, 2] rfl
            exact W.zret (v := 0) (ty := .boolean) hx hb hr rfl (fun t ht hW => ⟨⟨0, (), rfl, (by rw [(show cmd S Bs T a = none from by first | exact cmd_0 hq9 | exact cmd_1 hq9 (Or.inl hz9) | exact cmd_1 hq9 (Or.inr (by rw [htt.1]; omega)) | (by_cases hb8 : hv / 2 = 0 ∨ 256 < T.length + hv / 2; exact cmd_1 hq9 hb8; first | exact cmd_3 hq9 hb8 hod hq8 | (rw [cmd_4 hq9 hb8 hod hq8]; exact if_pos (by rw [htb.1]; omega)) | (rw [cmd_2 hq9 hb8 hev]; exact if_pos (by omega))))]; rfl), (a2_16 - b0), (a2_16), k, f, T, (nI pd), ⟨⟨htt, hk, (by omega), (by omega)⟩, cmR_n (show cmd S Bs T a = none from by first | exact cmd_0 hq9 | exact cmd_1 hq9 (Or.inl hz9) | exact cmd_1 hq9 (Or.inr (by rw [htt.1]; omega)) | (by_cases hb8 : hv / 2 = 0 ∨ 256 < T.length + hv / 2; exact cmd_1 hq9 hb8; first | exact cmd_3 hq9 hb8 hod hq8 | (rw [cmd_4 hq9 hb8 hod hq8]; exact if_pos (by rw [htb.1]; omega)) | (rw [cmd_2 hq9 hb8 hev]; exact if_pos (by omega))))⟩, by rw [ht]; exact hP9, va_K.moved hW.alike hK9, hD9⟩, hS.F ht⟩) hS.2.2 d_O_command_99
          · have hg8 : k + hv / 2 ≤ 256 := (by rcases Nat.lt_or_ge 256 (k + hv / 2) with z | z; exact absurd (nI_lt z (by omega)) c_22; exact z)
            refine lv_iload_n hx hb d_O_command_77 rfl (lv_at hl 0 rfl) ?_
            refine lv_iload_n hx hb d_O_command_78 rfl (lv_at hl 2 rfl) ?_
            refine lv_iadd hx hb d_O_command_79 ?_
            refine lv_topi (fun x_23 ex_23 => ?_)
            obtain rfl : x_23 = (nI (pd + hv / 2)) := by rw [ex_23]; exact nI_add _ _
            clear ex_23
            refine lv_iload_n hx hb d_O_command_80 rfl (lv_at hl 1 rfl) ?_
            refine lv_if_eq (tgt := 91) hx hb d_O_command_81 (by decide) (fun h9 => absurd h9 (by decide +kernel)) (fun _ => ?_)
            refine lv_aload_n hx hb d_O_command_84 rfl (lv_at hl 3 rfl) ?_
            refine va_get (D := (dC, dI)) (ci := 7) (v := .int (nI kb)) (C := R_O) (T := F_O) (N := 27) hx hb hw0 in_O hown hK hP 2 rfl rfl 16 (by decide) (hw0 (.fieldLink R_O 116 "TextKeeperModel" "baseSize" "I") wm_288) (fun _ h9 => h9) rfl d_O_command_85 ?_
            refine lv_goto (tgt := 95) hx hb d_O_command_88 (by decide) ?_
            refine lv_icmp_le (tgt := 100) hx hb d_O_command_95 (by decide) (fun c_24 => ?_) (fun c_24 => ?_)
            · have hm8 := (nI_leI (by omega) (by omega)).mp c_24
              refine lv_iconst (v := 0) hx hb d_O_command_100 (by decide) ?_
              refine lv_istore (lv' := [(4, .int 0), (3, .int (nI pd)), (2, .int 1), (1, .int (nI (hv / 2))), (0, .ref h0)]) hx hb d_O_command_101 hl (by decide) rfl (fun ls hl => ?_)
              refine lo_cmc h0 i_thrown i_down i_lasts v_buffer i_size i_documents v_gone v_first v_many v_lengths v_authors v_sums v_text i_textSize i_textSteps v_other i_otherSize v_piece i_pieceSize (nI pd) hmade cM k hbase cB kb fb Bs hrow cW fr S a2_16 en b0 T (rd S a).2 (hv / 2) pd htb hsx hk hkb hen (by omega) (by omega) hx hb hml hown hw0 hN (hK.sub (tys' := [(cM, .byte), (cB, .byte), (cW, .byte)]) [0, 1, 2] rfl) hA (fun f9 hf9 H locs hP hD hS ls hl => ?_) (hv / 2 + 1) 0 (by omega) (by omega) f (by rw [List.take_zero, List.append_nil]; exact htt) _ _ (hP.sub (ws' := [(h0, .inr (7, [.int i_thrown, .int i_down, .int i_lasts, v_buffer, .int i_size, .int i_documents, v_gone, v_first, v_many, v_lengths, v_authors, v_sums, .ref hrow, .ref hmade, .int (nI (k + 0)), .ref hbase, .int (nI kb), v_text, .int i_textSize, .int i_textSteps, v_other, .int i_otherSize, v_piece, .int i_pieceSize, .int (nI a2_16), .int (nI en), .int (nI pd)])), (hmade, .inl (cM, 256, .inl (f))), (hbase, .inl (cB, 256, .inl (fb))), (hrow, .inl (cW, 16384, .inl (fr)))]) [2, 0, 1, 3] rfl) (hD.sub (ws' := [(h0, .inr (7, [.int i_thrown, .int i_down, .int i_lasts, v_buffer, .int i_size, .int i_documents, v_gone, v_first, v_many, v_lengths, v_authors, v_sums, .ref hrow, .ref hmade, .int (nI (k + 0)), .ref hbase, .int (nI kb), v_text, .int i_textSize, .int i_textSteps, v_other, .int i_otherSize, v_piece, .int i_pieceSize, .int (nI a2_16), .int (nI en), .int (nI pd)])), (hmade, .inl (cM, 256, .inl (f))), (hbase, .inl (cB, 256, .inl (fb))), (hrow, .inl (cW, 16384, .inl (fr)))]) [2, 0, 1, 3] (by decide) rfl) hS ls (lv_sub hl [0, 4, 3, 2, 1] rfl)
              replace hK := hK.sub (tys' := [(cM, .byte), (cB, .byte), (cW, .byte)]) [0, 1, 2] rfl
              refine lv_aload_n hx hb d_O_command_159 rfl (lv_at hl 1 rfl) ?_
              refine lv_iload_n hx hb d_O_command_160 rfl (lv_at hl 3 rfl) ?_
              refine lv_if_eq (tgt := 171) hx hb d_O_command_161 (by decide) (fun h9 => absurd h9 (by decide +kernel)) (fun _ => ?_)
              refine lv_aload_n hx hb d_O_command_164 rfl (lv_at hl 1 rfl) ?_
              refine va_get (D := (dC, dI)) (ci := 7) (v := .int (nI a2_16)) (C := R_O) (T := F_O) (N := 27) hx hb hw0 in_O hown hK hP 0 rfl rfl 24 (by decide) (hw0 (.fieldLink R_O 103 "TextKeeperModel" "at" "I") wm_262) (fun _ h9 => h9) rfl d_O_command_165 ?_
              refine lv_goto (tgt := 177) hx hb d_O_command_168 (by decide) ?_
              refine va_put (D := (dC, dI)) (ci := 7) (v := .int (nI a2_16)) (ty := .int) (C := R_O) (T := F_O) (N := 27) hx hb hw0 in_O ft_O tk_O nk_O hown hK hP hD hS 0 rfl rfl 24 (by decide) (hw0 (.fieldLink R_O 103 "TextKeeperModel" "at" "I") wm_262) (fun _ h9 => h9) rfl (by decide +kernel) rfl rfl (Nat.le_of_ble_eq_true rfl) d_O_command_177 (fun H locs hP hD hS => ?_)
              replace hP : va_P (dC, dI) vwCl [(h0, .inr (7, [.int i_thrown, .int i_down, .int i_lasts, v_buffer, .int i_size, .int i_documents, v_gone, v_first, v_many, v_lengths, v_authors, v_sums, .ref hrow, .ref hmade, .int (nI (k + hv / 2)), .ref hbase, .int (nI kb), v_text, .int i_textSize, .int i_textSteps, v_other, .int i_otherSize, v_piece, .int i_pieceSize, .int (nI a2_16), .int (nI en), .int (nI pd)])), (hmade, .inl (cM, 256, .inl (f9))), (hbase, .inl (cB, 256, .inl (fb))), (hrow, .inl (cW, 16384, .inl (fr)))] H := hP
              replace hD : va_D A [(h0, .inr (7, [.int i_thrown, .int i_down, .int i_lasts, v_buffer, .int i_size, .int i_documents, v_gone, v_first, v_many, v_lengths, v_authors, v_sums, .ref hrow, .ref hmade, .int (nI (k + hv / 2)), .ref hbase, .int (nI kb), v_text, .int i_textSize, .int i_textSteps, v_other, .int i_otherSize, v_piece, .int i_pieceSize, .int (nI a2_16), .int (nI en), .int (nI pd)])), (hmade, .inl (cM, 256, .inl (f9))), (hbase, .inl (cB, 256, .inl (fb))), (hrow, .inl (cW, 16384, .inl (fr)))] := hD
              refine lv_iconst (v := 1) hx hb d_O_command_180 (by decide) ?_
              have hP9 := hP.sub (ws' := [(h0, .inr (7, [.int i_thrown, .int i_down, .int i_lasts, v_buffer, .int i_size, .int i_documents, v_gone, v_first, v_many, v_lengths, v_authors, v_sums, .ref hrow, .ref hmade, .int (nI (k + hv / 2)), .ref hbase, .int (nI kb), v_text, .int i_textSize, .int i_textSteps, v_other, .int i_otherSize, v_piece, .int i_pieceSize, .int (nI (a2_16)), .int (nI en), .int (nI pd)])), (hmade, .inl (cM, 256, .inl (f9))), (hbase, .inl (cB, 256, .inl (fb))), (hrow, .inl (cW, 16384, .inl (fr)))]) [0, 1, 2, 3] rfl
              have hD9 := hD.sub (ws' := [(h0, .inr (7, [.int i_thrown, .int i_down, .int i_lasts, v_buffer, .int i_size, .int i_documents, v_gone, v_first, v_many, v_lengths, v_authors, v_sums, .ref hrow, .ref hmade, .int (nI (k + hv / 2)), .ref hbase, .int (nI kb), v_text, .int i_textSize, .int i_textSteps, v_other, .int i_otherSize, v_piece, .int i_pieceSize, .int (nI (a2_16)), .int (nI en), .int (nI pd)])), (hmade, .inl (cM, 256, .inl (f9))), (hbase, .inl (cB, 256, .inl (fb))), (hrow, .inl (cW, 16384, .inl (fr)))]) [0, 1, 2, 3] (by decide) rfl
              have hK9 := hK.sub (tys' := [(cM, .byte), (cB, .byte), (cW, .byte)]) [0, 1, 2] rfl
              exact W.zret (v := 1) (ty := .boolean) hx hb hr rfl (fun t ht hW => ⟨⟨1, (), rfl, (by rw [(show cmd S Bs T a = some _ from by rw [cmd_4 hq9 (by rw [htt.1]; omega) hod hq8, if_neg (by rw [htb.1]; omega)])]; rfl), (rd S (rd S a).2).2, (a2_16), (k + hv / 2), f9, (T ++ (Bs.drop pd).take (hv / 2)), (nI pd), ⟨⟨hf9, (by omega), (by omega), (by omega)⟩, cmR_s (show cmd S Bs T a = some _ from by rw [cmd_4 hq9 (by rw [htt.1]; omega) hod hq8, if_neg (by rw [htb.1]; omega)])⟩, by rw [ht]; exact hP9, va_K.moved hW.alike hK9, hD9⟩, hS.F ht⟩) hS.2.2 d_O_command_181
            · have hm9 := mt (nI_leI (by omega) (by omega)).mpr c_24
              refine lv_iconst (v := 0) hx hb d_O_command_98 (by decide) ?_
              have hP9 := hP.sub (ws' := [(h0, .inr (7, [.int i_thrown, .int i_down, .int i_lasts, v_buffer, .int i_size, .int i_documents, v_gone, v_first, v_many, v_lengths, v_authors, v_sums, .ref hrow, .ref hmade, .int (nI k), .ref hbase, .int (nI kb), v_text, .int i_textSize, .int i_textSteps, v_other, .int i_otherSize, v_piece, .int i_pieceSize, .int (nI (a2_16)), .int (nI en), .int (nI pd)])), (hmade, .inl (cM, 256, .inl (f))), (hbase, .inl (cB, 256, .inl (fb))), (hrow, .inl (cW, 16384, .inl (fr)))]) [2, 0, 1, 3] rfl
              have hD9 := hD.sub (ws' := [(h0, .inr (7, [.int i_thrown, .int i_down, .int i_lasts, v_buffer, .int i_size, .int i_documents, v_gone, v_first, v_many, v_lengths, v_authors, v_sums, .ref hrow, .ref hmade, .int (nI k), .ref hbase, .int (nI kb), v_text, .int i_textSize, .int i_textSteps, v_other, .int i_otherSize, v_piece, .int i_pieceSize, .int (nI (a2_16)), .int (nI en), .int (nI pd)])), (hmade, .inl (cM, 256, .inl (f))), (hbase, .inl (cB, 256, .inl (fb))), (hrow, .inl (cW, 16384, .inl (fr)))]) [2, 0, 1, 3] (by decide) rfl
              have hK9 := hK.sub (tys' := [(cM, .byte), (cB, .byte), (cW, .byte)]) [0, 1, 2] rfl
              exact W.zret (v := 0) (ty := .boolean) hx hb hr rfl (fun t ht hW => ⟨⟨0, (), rfl, (by rw [(show cmd S Bs T a = none from by first | exact cmd_0 hq9 | exact cmd_1 hq9 (Or.inl hz9) | exact cmd_1 hq9 (Or.inr (by rw [htt.1]; omega)) | (by_cases hb8 : hv / 2 = 0 ∨ 256 < T.length + hv / 2; exact cmd_1 hq9 hb8; first | exact cmd_3 hq9 hb8 hod hq8 | (rw [cmd_4 hq9 hb8 hod hq8]; exact if_pos (by rw [htb.1]; omega)) | (rw [cmd_2 hq9 hb8 hev]; exact if_pos (by omega))))]; rfl), (a2_16 - b0), (a2_16), k, f, T, (nI pd), ⟨⟨htt, hk, (by omega), (by omega)⟩, cmR_n (show cmd S Bs T a = none from by first | exact cmd_0 hq9 | exact cmd_1 hq9 (Or.inl hz9) | exact cmd_1 hq9 (Or.inr (by rw [htt.1]; omega)) | (by_cases hb8 : hv / 2 = 0 ∨ 256 < T.length + hv / 2; exact cmd_1 hq9 hb8; first | exact cmd_3 hq9 hb8 hod hq8 | (rw [cmd_4 hq9 hb8 hod hq8]; exact if_pos (by rw [htb.1]; omega)) | (rw [cmd_2 hq9 hb8 hev]; exact if_pos (by omega))))⟩, by rw [ht]; exact hP9, va_K.moved hW.alike hK9, hD9⟩, hS.F ht⟩) hS.2.2 d_O_command_99
end
section
def bgs (ln : Nat → Option Nat) : Nat → Nat
  | 0 => 0
  | j + 1 => bgs ln j + (ln j).getD 0
theorem y_bg1 {fl : Nat → Int32} {ln : Nat → Option Nat} {j : Nat} {x : Int32} (hj : j < 512) (hfl : fl j = vI (ln j)) (e : x = fl (Int32.toNatClampNeg (nI j))) (c : ¬ x ≤ 0) : nI (bgs ln j) + fl (Int32.toNatClampNeg (nI j)) = nI (bgs ln (j + 1)) := by
  rw [nI_clamp (by omega)] at e ⊢
  rw [hfl] at e ⊢
  rw [bgs]
  cases h : ln j with
  | none => rw [h] at e; exact absurd (by rw [e]; decide) c
  | some v => exact nI_add _ _
theorem y_bg0 {fl : Nat → Int32} {ln : Nat → Option Nat} {j : Nat} {x : Int32} (hj : j < 512) (hfl : fl j = vI (ln j)) (hb : ∀ v, ln j = some v → v ≤ 16384) (e : x = fl (Int32.toNatClampNeg (nI j))) (c : x ≤ 0) : nI (bgs ln j) + 0 = nI (bgs ln (j + 1)) := by
  rw [nI_clamp (by omega), hfl] at e
  rw [Int32.add_zero, bgs]
  cases h : ln j with
  | none => rfl
  | some v =>
    rw [h] at e
    have h1 := hb v h
    have h2 : v = 0 := by
      rcases Nat.eq_zero_or_pos v with z | z
      · exact z
      · exact absurd (by rw [← show x = nI v from e]; exact c) (nI_nle z (by omega))
    rw [h2]
    rfl
def mkF (S B : List Int32) : Nat → List Int32 → Nat → Option (List Int32)
  | 0, T, _ => some T
  | n + 1, T, a => if a < S.length then (match cmd S B T a with | none => none | some y => mkF S B n y.1 y.2) else some T
theorem mkF_end {S B T : List Int32} {n a : Nat} (h : ¬ a < S.length) : mkF S B n T a = some T := by
  cases n with
  | zero => rfl
  | succ n => rw [mkF, if_neg h]
theorem mkF_no {S B T : List Int32} {n a : Nat} (h : a < S.length) (e : cmd S B T a = none) : mkF S B (n + 1) T a = none := by
  rw [mkF, if_pos h, e]
theorem mkF_yes {S B T : List Int32} {n a : Nat} {y : List Int32 × Nat} (h : a < S.length) (e : cmd S B T a = some y) : mkF S B (n + 1) T a = mkF S B n y.1 y.2 := by
  rw [mkF, if_pos h, e]
def mak (S B : List Int32) : Option (List Int32) := mkF S B S.length [] 0
end
