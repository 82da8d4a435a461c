set_option maxHeartbeats 4000000 in
set_option maxRecDepth 100000 in
theorem lo_ocp {p : Program} {l : Launch} {e : Env} {s : State} {m : MethodId} {args : Array Value} {below : List Frame} {meth : Method} {c : Code} {dC : Nat → ClassId} {dI : Nat → Nat → Nat} {A : Nat → Prop} {Q : State → Prop} {R : Room} (h0 : Nat) (i_thrown : Int32) (i_down : Int32) (i_lasts : Int32) (v_buffer : Value) (i_size : Int32) (i_documents : Int32) (v_gone : Value) (v_first : Value) (v_many : Value) (v_lengths : Value) (v_authors : Value) (v_sums : Value) (v_row : Value) (v_base : Value) (i_baseSize : Int32) (v_text : Value) (i_textSize : Int32) (i_textSteps : Int32) (i_otherSize : Int32) (v_piece : Value) (i_pieceSize : Int32) (i_at : Int32) (i_end : Int32) (i_value : Int32) (hot : Nat) (hmade : Nat) (cB : ClassId) (k : Nat) (f : Nat → Int32) (Y : List Int32) (pl : va_W) (d9 : Nat) (r9 : Nat) (r8 : Nat) (a4 : Int32) (hY : tx Y k f) (hk : k ≤ 256)
    (hx : p.tables.exec = Jvm.exec) (hb : c.code = prog_9_method_38_code) (hml : c.maxLocals = 8) (hown : s.vm.findClass R_O = some m.cls) (hw0 : ∀ w ∈ w0, w.before args s = true) (hN : nw_ok s) (hK : va_K (dC, dI) vwCl [(cB, .byte)] s) (hA : ∀ q : Nat, s.heap.size ≤ q → A q)
    (kk : ∀ (fo : Nat → Int32), (tx (Y.take k) k fo) → ∀ (H : Heap) (locs : List Loc), va_P (dC, dI) vwCl ([(h0, .inr (7, [.int i_thrown, .int i_down, .int i_lasts, v_buffer, .int i_size, .int i_documents, v_gone, v_first, v_many, v_lengths, v_authors, v_sums, v_row, .ref hmade, .int (nI k), v_base, .int i_baseSize, v_text, .int i_textSize, .int i_textSteps, .ref hot, .int i_otherSize, v_piece, .int i_pieceSize, .int i_at, .int i_end, .int i_value])), (hot, .inl (cB, 256, .inl (fo))), (hmade, .inl (cB, 256, .inl (f)))] ++ pl) H → va_D A ([(h0, .inr (7, [.int i_thrown, .int i_down, .int i_lasts, v_buffer, .int i_size, .int i_documents, v_gone, v_first, v_many, v_lengths, v_authors, v_sums, v_row, .ref hmade, .int (nI k), v_base, .int i_baseSize, v_text, .int i_textSize, .int i_textSteps, .ref hot, .int i_otherSize, v_piece, .int i_pieceSize, .int i_at, .int i_end, .int i_value])), (hot, .inl (cB, 256, .inl (fo))), (hmade, .inl (cB, 256, .inl (f)))] ++ pl) → va_S A s.heap H locs → ∀ ls : Array Slot, lv_has ls 8 [(5, .int (nI k)), (0, .ref h0), (1, .int (nI d9)), (2, .int (nI r9)), (3, .int (nI r8)), (4, .int a4)] → W p l e R s m args below meth c H locs 0 0 Q (F0 m 102 ls [])) :
    ∀ (n j : Nat), j ≤ k → k < j + n → ∀ (fo : Nat → Int32), (tx (Y.take j) j fo) → ∀ (H : Heap) (locs : List Loc), va_P (dC, dI) vwCl ([(h0, .inr (7, [.int i_thrown, .int i_down, .int i_lasts, v_buffer, .int i_size, .int i_documents, v_gone, v_first, v_many, v_lengths, v_authors, v_sums, v_row, .ref hmade, .int (nI k), v_base, .int i_baseSize, v_text, .int i_textSize, .int i_textSteps, .ref hot, .int i_otherSize, v_piece, .int i_pieceSize, .int i_at, .int i_end, .int i_value])), (hot, .inl (cB, 256, .inl (fo))), (hmade, .inl (cB, 256, .inl (f)))] ++ pl) H → va_D A ([(h0, .inr (7, [.int i_thrown, .int i_down, .int i_lasts, v_buffer, .int i_size, .int i_documents, v_gone, v_first, v_many, v_lengths, v_authors, v_sums, v_row, .ref hmade, .int (nI k), v_base, .int i_baseSize, v_text, .int i_textSize, .int i_textSteps, .ref hot, .int i_otherSize, v_piece, .int i_pieceSize, .int i_at, .int i_end, .int i_value])), (hot, .inl (cB, 256, .inl (fo))), (hmade, .inl (cB, 256, .inl (f)))] ++ pl) → va_S A s.heap H locs → ∀ ls : Array Slot, lv_has ls 8 [(5, .int (nI j)), (0, .ref h0), (1, .int (nI d9)), (2, .int (nI r9)), (3, .int (nI r8)), (4, .int a4)] → W p l e R s m args below meth c H locs 0 0 Q (F0 m 73 ls []) := by
  intro n
  induction n with
  | zero => intro j h1 h2; exact absurd h2 (by omega)
  | succ n ih =>
    intro j hj hn fo hf0 H locs hP hD hS ls hl
    refine lv_iload hx hb d_O_common_73 (lv_at hl 0 rfl) ?_
    refine lv_aload_n hx hb d_O_common_75 rfl (lv_at hl 1 rfl) ?_
    refine va_get (D := (dC, dI)) (ci := 7) (v := .int (nI k)) (C := R_O) (T := F_O) (N := 27) hx hb hw0 in_O hown hK hP 0 rfl rfl 14 (by decide) (hw0 (.fieldLink R_O 113 "TextKeeperModel" "madeSize" "I") (List.mem_of_getElem? (i := 164) rfl)) (fun _ h9 => h9) rfl d_O_common_76 ?_
    refine lv_icmp_ge (tgt := 102) hx hb d_O_common_79 (by decide) (fun c_1 => ?_) (fun c_1 => ?_)
    · obtain rfl : j = k := x_geN (by omega) hj c_1
      exact kk fo hf0 _ _ hP hD hS ls (lv_sub hl [0, 1, 2, 3, 4, 5] rfl)
    · have hlt : j < k := x_ltN (by omega) hj c_1
      refine lv_aload_n hx hb d_O_common_82 rfl (lv_at hl 1 rfl) ?_
      refine va_get (D := (dC, dI)) (ci := 7) (v := .ref hot) (C := R_O) (T := F_O) (N := 27) hx hb hw0 in_O hown hK hP 0 rfl rfl 20 (by decide) (hw0 (.fieldLink R_O 56 "TextKeeperModel" "other" "[B") (List.mem_of_getElem? (i := 424) rfl)) (fun _ h9 => h9) rfl d_O_common_83 ?_
      refine lv_iload hx hb d_O_common_86 (lv_at hl 0 rfl) ?_
      refine lv_aload_n hx hb d_O_common_88 rfl (lv_at hl 1 rfl) ?_
      refine va_get (D := (dC, dI)) (ci := 7) (v := .ref hmade) (C := R_O) (T := F_O) (N := 27) hx hb hw0 in_O hown hK hP 0 rfl rfl 13 (by decide) (hw0 (.fieldLink R_O 41 "TextKeeperModel" "made" "[B") (List.mem_of_getElem? (i := 166) rfl)) (fun _ h9 => h9) rfl d_O_common_89 ?_
      refine lv_iload hx hb d_O_common_92 (lv_at hl 0 rfl) ?_
      refine va_bald hx hb hK hP 2 0 rfl rfl (vp_in_nI (by omega) (by decide)) d_O_common_94 ?_
      refine lv_topi (fun x_2 ex_2 => ?_)
      refine va_bast hx hb hK hP hD hS 1 0 rfl rfl (vp_in_nI (by omega) (by decide)) d_O_common_95 (fun H locs hP hD hS => ?_)
      replace hP : va_P (dC, dI) vwCl ([(h0, .inr (7, [.int i_thrown, .int i_down, .int i_lasts, v_buffer, .int i_size, .int i_documents, v_gone, v_first, v_many, v_lengths, v_authors, v_sums, v_row, .ref hmade, .int (nI k), v_base, .int i_baseSize, v_text, .int i_textSize, .int i_textSteps, .ref hot, .int i_otherSize, v_piece, .int i_pieceSize, .int i_at, .int i_end, .int i_value])), (hot, .inl (cB, 256, .inl (upd (fo) (Int32.toNatClampNeg (nI j)) (vp_nar .byte (x_2))))), (hmade, .inl (cB, 256, .inl (f)))] ++ pl) H := hP
      replace hD : va_D A ([(h0, .inr (7, [.int i_thrown, .int i_down, .int i_lasts, v_buffer, .int i_size, .int i_documents, v_gone, v_first, v_many, v_lengths, v_authors, v_sums, v_row, .ref hmade, .int (nI k), v_base, .int i_baseSize, v_text, .int i_textSize, .int i_textSteps, .ref hot, .int i_otherSize, v_piece, .int i_pieceSize, .int i_at, .int i_end, .int i_value])), (hot, .inl (cB, 256, .inl (upd (fo) (Int32.toNatClampNeg (nI j)) (vp_nar .byte (x_2))))), (hmade, .inl (cB, 256, .inl (f)))] ++ pl) := hD
      have eS : upd (fo) (Int32.toNatClampNeg (nI j)) (vp_nar .byte (x_2)) = upd fo j (nbb x_2) := by rw [nI_clamp (by omega)]; exact congrArg (upd fo j) (vp_nar_byte x_2)
      rw [eS] at hP hD
      refine lv_iinc (v := nI (j + 1)) (lv' := [(5, .int (nI (j + 1))), (0, .ref h0), (1, .int (nI d9)), (2, .int (nI r9)), (3, .int (nI r8)), (4, .int a4)]) hx hb d_O_common_96 hl (k := 0) rfl (nI_1 j) (by decide) rfl (fun ls hl => ?_)
      refine lv_goto (tgt := 73) hx hb d_O_common_99 (by decide) ?_
      exact ih (j + 1) hlt (by omega) _ (fc_step hY hk hlt ex_2 hf0) _ _ hP hD hS ls (lv_sub hl [0, 1, 2, 3, 4, 5] rfl)
set_option maxHeartbeats 4000000 in
set_option maxRecDepth 100000 in
theorem lo_cm2 {p : Program} {l : Launch} {e : Env} {s : State} {m : MethodId} {args : Array Value} {below : List Frame} {meth : Method} {c : Code} {dC : Nat → ClassId} {dI : Nat → Nat → Nat} {Q : State → Prop} {H : Heap} {locs : List Loc} {R : Room} (h0 : Nat) (i_thrown : Int32) (i_down : Int32) (i_lasts : Int32) (v_buffer : Value) (i_size : Int32) (i_documents : Int32) (v_gone : Value) (v_first : Value) (v_many : Value) (v_lengths : Value) (v_authors : Value) (v_sums : Value) (v_row : Value) (v_base : Value) (i_baseSize : Int32) (v_text : Value) (i_textSize : Int32) (i_textSteps : Int32) (v_piece : Value) (i_pieceSize : Int32) (i_at : Int32) (i_end : Int32) (i_value : Int32) (hmade : Nat) (cB : ClassId) (k : Nat) (f : Nat → Int32) (hot : Nat) (ko : Nat) (fo : Nat → Int32) (X : List Int32) (Y : List Int32) (pl : va_W) (d9 : Nat) (r9 : Nat) (r8 : Nat) (a4 : Int32) (hY : tx Y k f) (hX : tx X ko fo) (hk : k ≤ 256) (hko : ko ≤ 256)
    (hx : p.tables.exec = Jvm.exec) (hb : c.code = prog_9_method_38_code) (hml : c.maxLocals = 8) (hown : s.vm.findClass R_O = some m.cls) (hw0 : ∀ w ∈ w0, w.before args s = true) (hN : nw_ok s) (hK : va_K (dC, dI) vwCl [(cB, .byte)] s) (hP : va_P (dC, dI) vwCl ([(h0, .inr (7, [.int i_thrown, .int i_down, .int i_lasts, v_buffer, .int i_size, .int i_documents, v_gone, v_first, v_many, v_lengths, v_authors, v_sums, v_row, .ref hmade, .int (nI k), v_base, .int i_baseSize, v_text, .int i_textSize, .int i_textSteps, .ref hot, .int (nI ko), v_piece, .int i_pieceSize, .int i_at, .int i_end, .int i_value])), (hmade, .inl (cB, 256, .inl (f))), (hot, .inl (cB, 256, .inl (fo)))] ++ pl) H)
    (kk : ∀ ls : Array Slot, lv_has ls 8 [(6, .int (nI (cpl Y X))), (5, .int (nI (min k ko))), (0, .ref h0), (1, .int (nI d9)), (2, .int (nI r9)), (3, .int (nI r8)), (4, .int a4)] → W p l e R s m args below meth c H locs 0 0 Q (F0 m 171 ls [])) :
    ∀ (n j : Nat), j ≤ (min k ko) → (min k ko) < j + n → (∀ t, t < j → Y.getD t 0 = X.getD t 0) → ∀ ls : Array Slot, lv_has ls 8 [(6, .int (nI j)), (5, .int (nI (min k ko))), (0, .ref h0), (1, .int (nI d9)), (2, .int (nI r9)), (3, .int (nI r8)), (4, .int a4)] → W p l e R s m args below meth c H locs 0 0 Q (F0 m 141 ls []) := by
  intro n
  induction n with
  | zero => intro j  h1 h2; exact absurd h2 (by omega)
  | succ n ih =>
    intro j  hj hn hf0 ls hl
    refine lv_iload hx hb d_O_common_141 (lv_at hl 0 rfl) ?_
    refine lv_iload hx hb d_O_common_143 (lv_at hl 1 rfl) ?_
    refine lv_icmp_ge (tgt := 171) hx hb d_O_common_145 (by decide) (fun c_1 => ?_) (fun c_1 => ?_)
    · have e9 : cpl Y X = j := cpl_is (by rw [hY.1]; omega) (by rw [hX.1]; omega) hf0 (by have h9 := x_geN (by omega) hj c_1; rcases Nat.le_total k ko with q | q; exact Or.inl (by rw [hY.1]; omega); exact Or.inr (Or.inl (by rw [hX.1]; omega)))
      exact kk ls (by rw [e9]; exact (lv_sub hl [0, 1, 2, 3, 4, 5, 6] rfl))
    · have hlt : j < min k ko := x_ltN (by omega) hj c_1
      refine lv_aload_n hx hb d_O_common_148 rfl (lv_at hl 2 rfl) ?_
      refine va_get (D := (dC, dI)) (ci := 7) (v := .ref hmade) (C := R_O) (T := F_O) (N := 27) hx hb hw0 in_O hown hK hP 0 rfl rfl 13 (by decide) (hw0 (.fieldLink R_O 41 "TextKeeperModel" "made" "[B") (List.mem_of_getElem? (i := 166) rfl)) (fun _ h9 => h9) rfl d_O_common_149 ?_
      refine lv_iload hx hb d_O_common_152 (lv_at hl 0 rfl) ?_
      refine va_bald hx hb hK hP 1 0 rfl rfl (vp_in_nI (by omega) (by decide)) d_O_common_154 ?_
      refine lv_topi (fun x_2 ex_2 => ?_)
      refine lv_aload_n hx hb d_O_common_155 rfl (lv_at hl 2 rfl) ?_
      refine va_get (D := (dC, dI)) (ci := 7) (v := .ref hot) (C := R_O) (T := F_O) (N := 27) hx hb hw0 in_O hown hK hP 0 rfl rfl 20 (by decide) (hw0 (.fieldLink R_O 56 "TextKeeperModel" "other" "[B") (List.mem_of_getElem? (i := 424) rfl)) (fun _ h9 => h9) rfl d_O_common_156 ?_
      refine lv_iload hx hb d_O_common_159 (lv_at hl 0 rfl) ?_
      refine va_bald hx hb hK hP 2 0 rfl rfl (vp_in_nI (by omega) (by decide)) d_O_common_161 ?_
      refine lv_topi (fun x_3 ex_3 => ?_)
      refine lv_icmp_ne (tgt := 171) hx hb d_O_common_162 (by decide) (fun c_4 => ?_) (fun c_4 => ?_)
      · have e9 : cpl Y X = j := cpl_is (by rw [hY.1]; omega) (by rw [hX.1]; omega) hf0 (Or.inr (Or.inr (fun h9 => c_4 (by rw [ex_2, ex_3, nI_clamp (by omega), tx_at hY (by omega), tx_at hX (by omega)]; exact h9))))
        exact kk ls (by rw [e9]; exact (lv_sub hl [0, 1, 2, 3, 4, 5, 6] rfl))
      · refine lv_iinc (v := nI (j + 1)) (lv' := [(6, .int (nI (j + 1))), (5, .int (nI (min k ko))), (0, .ref h0), (1, .int (nI d9)), (2, .int (nI r9)), (3, .int (nI r8)), (4, .int a4)]) hx hb d_O_common_165 hl (k := 0) rfl (nI_1 j) (by decide) rfl (fun ls hl => ?_)
        refine lv_goto (tgt := 141) hx hb d_O_common_168 (by decide) ?_
        exact ih (j + 1) hlt (by omega) (fun t ht => by rcases Nat.lt_or_ge t j with q | q; exact hf0 t q; obtain rfl : t = j := (by omega); have h9 := c_4; rw [ex_2, ex_3, nI_clamp (by omega), tx_at hY (by omega), tx_at hX (by omega)] at h9; exact h9) ls (lv_sub hl [0, 1, 2, 3, 4, 5, 6] rfl)
set_option maxHeartbeats 4000000 in
set_option maxRecDepth 100000 in
theorem lo_cm3 {p : Program} {l : Launch} {e : Env} {s : State} {m : MethodId} {args : Array Value} {below : List Frame} {meth : Method} {c : Code} {dC : Nat → ClassId} {dI : Nat → Nat → Nat} {Q : State → Prop} {H : Heap} {locs : List Loc} {R : Room} (h0 : Nat) (i_thrown : Int32) (i_down : Int32) (i_lasts : Int32) (v_buffer : Value) (i_size : Int32) (i_documents : Int32) (v_gone : Value) (v_first : Value) (v_many : Value) (v_lengths : Value) (v_authors : Value) (v_sums : Value) (v_row : Value) (v_base : Value) (i_baseSize : Int32) (v_text : Value) (i_textSize : Int32) (i_textSteps : Int32) (v_piece : Value) (i_pieceSize : Int32) (i_at : Int32) (i_end : Int32) (i_value : Int32) (hmade : Nat) (cB : ClassId) (k : Nat) (f : Nat → Int32) (hot : Nat) (ko : Nat) (fo : Nat → Int32) (X : List Int32) (Y : List Int32) (pl : va_W) (d9 : Nat) (r9 : Nat) (r8 : Nat) (a4 : Int32) (n9 : Nat) (hY : tx Y k f) (hX : tx X ko fo) (hk : k ≤ 256) (hko : ko ≤ 256) (hn9 : n9 ≤ min k ko)
    (hx : p.tables.exec = Jvm.exec) (hb : c.code = prog_9_method_38_code) (hml : c.maxLocals = 8) (hown : s.vm.findClass R_O = some m.cls) (hw0 : ∀ w ∈ w0, w.before args s = true) (hN : nw_ok s) (hK : va_K (dC, dI) vwCl [(cB, .byte)] s) (hP : va_P (dC, dI) vwCl ([(h0, .inr (7, [.int i_thrown, .int i_down, .int i_lasts, v_buffer, .int i_size, .int i_documents, v_gone, v_first, v_many, v_lengths, v_authors, v_sums, v_row, .ref hmade, .int (nI k), v_base, .int i_baseSize, v_text, .int i_textSize, .int i_textSteps, .ref hot, .int (nI ko), v_piece, .int i_pieceSize, .int i_at, .int i_end, .int i_value])), (hmade, .inl (cB, 256, .inl (f))), (hot, .inl (cB, 256, .inl (fo)))] ++ pl) H)
    (kk : ∀ ls : Array Slot, lv_has ls 8 [(7, .int (nI (min (cpl Y.reverse X.reverse) (min k ko - n9)))), (6, .int (nI n9)), (5, .int (nI (min k ko))), (0, .ref h0), (1, .int (nI d9)), (2, .int (nI r9)), (3, .int (nI r8)), (4, .int a4)] → W p l e R s m args below meth c H locs 0 0 Q (F0 m 221 ls [])) :
    ∀ (n j : Nat), j ≤ (min k ko - n9) → (min k ko - n9) < j + n → (∀ t, t < j → Y.reverse.getD t 0 = X.reverse.getD t 0) → ∀ ls : Array Slot, lv_has ls 8 [(7, .int (nI j)), (6, .int (nI n9)), (5, .int (nI (min k ko))), (0, .ref h0), (1, .int (nI d9)), (2, .int (nI r9)), (3, .int (nI r8)), (4, .int a4)] → W p l e R s m args below meth c H locs 0 0 Q (F0 m 174 ls []) := by
  intro n
  induction n with
  | zero => intro j  h1 h2; exact absurd h2 (by omega)
  | succ n ih =>
    intro j  hj hn hf0 ls hl
    refine lv_iload hx hb d_O_common_174 (lv_at hl 0 rfl) ?_
    refine lv_iload hx hb d_O_common_176 (lv_at hl 2 rfl) ?_
    refine lv_iload hx hb d_O_common_178 (lv_at hl 1 rfl) ?_
    refine lv_isub hx hb d_O_common_180 ?_
    refine lv_topi (fun x_1 ex_1 => ?_)
    obtain rfl : x_1 = (nI (min k ko - n9)) := by rw [ex_1]; exact pk_sub hn9
    clear ex_1
    refine lv_icmp_ge (tgt := 221) hx hb d_O_common_181 (by decide) (fun c_2 => ?_) (fun c_2 => ?_)
    · have e9 : min (cpl Y.reverse X.reverse) (min k ko - n9) = j := cpb_2 hY hX (x_geN (by omega) hj c_2) (by omega) hf0
      exact kk ls (by rw [e9]; exact (lv_sub hl [0, 1, 2, 3, 4, 5, 6, 7] rfl))
    · have hlt : j < min k ko - n9 := x_ltN (by omega) hj c_2
      refine lv_aload_n hx hb d_O_common_184 rfl (lv_at hl 3 rfl) ?_
      refine va_get (D := (dC, dI)) (ci := 7) (v := .ref hmade) (C := R_O) (T := F_O) (N := 27) hx hb hw0 in_O hown hK hP 0 rfl rfl 13 (by decide) (hw0 (.fieldLink R_O 41 "TextKeeperModel" "made" "[B") (List.mem_of_getElem? (i := 166) rfl)) (fun _ h9 => h9) rfl d_O_common_185 ?_
      refine lv_aload_n hx hb d_O_common_188 rfl (lv_at hl 3 rfl) ?_
      refine va_get (D := (dC, dI)) (ci := 7) (v := .int (nI k)) (C := R_O) (T := F_O) (N := 27) hx hb hw0 in_O hown hK hP 0 rfl rfl 14 (by decide) (hw0 (.fieldLink R_O 113 "TextKeeperModel" "madeSize" "I") (List.mem_of_getElem? (i := 164) rfl)) (fun _ h9 => h9) rfl d_O_common_189 ?_
      refine lv_iconst (v := 1) hx hb d_O_common_192 (by decide) ?_
      refine lv_isub hx hb d_O_common_193 ?_
      refine lv_topi (fun x_3 ex_3 => ?_)
      obtain rfl : x_3 = (nI (k - 1)) := by rw [ex_3]; exact (show nI k - nI 1 = nI (k - 1) from pk_sub (by omega))
      clear ex_3
      refine lv_iload hx hb d_O_common_194 (lv_at hl 0 rfl) ?_
      refine lv_isub hx hb d_O_common_196 ?_
      refine lv_topi (fun x_4 ex_4 => ?_)
      obtain rfl : x_4 = (nI (k - 1 - j)) := by rw [ex_4]; exact pk_sub (by omega)
      clear ex_4
      refine va_bald hx hb hK hP 1 0 rfl rfl (vp_in_nI (by omega) (by decide)) d_O_common_197 ?_
      refine lv_topi (fun x_5 ex_5 => ?_)
      refine lv_aload_n hx hb d_O_common_198 rfl (lv_at hl 3 rfl) ?_
      refine va_get (D := (dC, dI)) (ci := 7) (v := .ref hot) (C := R_O) (T := F_O) (N := 27) hx hb hw0 in_O hown hK hP 0 rfl rfl 20 (by decide) (hw0 (.fieldLink R_O 56 "TextKeeperModel" "other" "[B") (List.mem_of_getElem? (i := 424) rfl)) (fun _ h9 => h9) rfl d_O_common_199 ?_
      refine lv_aload_n hx hb d_O_common_202 rfl (lv_at hl 3 rfl) ?_
      refine va_get (D := (dC, dI)) (ci := 7) (v := .int (nI ko)) (C := R_O) (T := F_O) (N := 27) hx hb hw0 in_O hown hK hP 0 rfl rfl 21 (by decide) (hw0 (.fieldLink R_O 165 "TextKeeperModel" "otherSize" "I") (List.mem_of_getElem? (i := 734) rfl)) (fun _ h9 => h9) rfl d_O_common_203 ?_
      refine lv_iconst (v := 1) hx hb d_O_common_206 (by decide) ?_
      refine lv_isub hx hb d_O_common_207 ?_
      refine lv_topi (fun x_6 ex_6 => ?_)
      obtain rfl : x_6 = (nI (ko - 1)) := by rw [ex_6]; exact (show nI ko - nI 1 = nI (ko - 1) from pk_sub (by omega))
      clear ex_6
      refine lv_iload hx hb d_O_common_208 (lv_at hl 0 rfl) ?_
      refine lv_isub hx hb d_O_common_210 ?_
      refine lv_topi (fun x_7 ex_7 => ?_)
      obtain rfl : x_7 = (nI (ko - 1 - j)) := by rw [ex_7]; exact pk_sub (by omega)
      clear ex_7
      refine va_bald hx hb hK hP 2 0 rfl rfl (vp_in_nI (by omega) (by decide)) d_O_common_211 ?_
      refine lv_topi (fun x_8 ex_8 => ?_)
      refine lv_icmp_ne (tgt := 221) hx hb d_O_common_212 (by decide) (fun c_9 => ?_) (fun c_9 => ?_)
      · have e9 : min (cpl Y.reverse X.reverse) (min k ko - n9) = j := cpb_1 hY hX hj (by omega) hf0 (fun h9 => c_9 (by rw [ex_5, ex_8, nI_clamp (by omega), nI_clamp (by omega), tx_at hY (by omega), tx_at hX (by omega)]; rw [rev_at hY (by omega), rev_at hX (by omega)] at h9; exact h9))
        exact kk ls (by rw [e9]; exact (lv_sub hl [0, 1, 2, 3, 4, 5, 6, 7] rfl))
      · refine lv_iinc (v := nI (j + 1)) (lv' := [(7, .int (nI (j + 1))), (6, .int (nI n9)), (5, .int (nI (min k ko))), (0, .ref h0), (1, .int (nI d9)), (2, .int (nI r9)), (3, .int (nI r8)), (4, .int a4)]) hx hb d_O_common_215 hl (k := 0) rfl (nI_1 j) (by decide) rfl (fun ls hl => ?_)
        refine lv_goto (tgt := 174) hx hb d_O_common_218 (by decide) ?_
        exact ih (j + 1) hlt (by omega) (fun t ht => by rcases Nat.lt_or_ge t j with q | q; exact hf0 t q; obtain rfl : t = j := (by omega); have h9 := c_9; rw [ex_5, ex_8, nI_clamp (by omega), nI_clamp (by omega), tx_at hY (by omega), tx_at hX (by omega)] at h9; rw [rev_at hY (by omega), rev_at hX (by omega)]; exact h9) ls (lv_sub hl [0, 1, 2, 3, 4, 5, 6, 7] rfl)
