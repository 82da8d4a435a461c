set_option maxHeartbeats 4000000 in
set_option maxRecDepth 100000 in
theorem lo_beg {p : Program} {l : Launch} {e : Env} {s : State} {m : MethodId} {args : Array Value} {below : List Frame} {meth : Method} {c : Code} {dC : Nat → ClassId} {dI : Nat → Nat → Nat} {Q : State → Prop} {H : Heap} {locs : List Loc} (h0 : Nat) (i_thrown : Int32) (i_down : Int32) (i_lasts : Int32) (v_buffer : Value) (i_size : Int32) (i_documents : Int32) (v_gone : Value) (v_first : Value) (v_many : Value) (v_authors : Value) (v_sums : Value) (v_row : Value) (v_made : Value) (i_madeSize : Int32) (v_base : Value) (i_baseSize : Int32) (v_text : Value) (i_textSize : Int32) (i_textSteps : Int32) (v_other : Value) (i_otherSize : Int32) (v_piece : Value) (i_pieceSize : Int32) (i_at : Int32) (i_end : Int32) (i_value : Int32) (hln : Nat) (cL : ClassId) (fl : Nat → Int32) (ln : Nat → Option Nat) (x : Nat) (hfl : ∀ j, j < 512 → fl j = vI (ln j)) (hbd : ∀ j v, j < 512 → ln j = some v → v ≤ 16384) (hx9 : x ≤ 512)
    (hx : p.tables.exec = Jvm.exec) (hb : c.code = prog_9_method_10_code) (hml : c.maxLocals = 4) (hown : s.vm.findClass R_O = some m.cls) (hw0 : ∀ w ∈ w0, w.before args s = true) (hN : nw_ok s) (hK : va_K (dC, dI) vwCl [(cL, .short)] s) (hP : va_P (dC, dI) vwCl [(h0, .inr (7, [.int i_thrown, .int i_down, .int i_lasts, v_buffer, .int i_size, .int i_documents, v_gone, v_first, v_many, .ref hln, v_authors, v_sums, v_row, v_made, .int i_madeSize, v_base, .int i_baseSize, v_text, .int i_textSize, .int i_textSteps, v_other, .int i_otherSize, v_piece, .int i_pieceSize, .int i_at, .int i_end, .int i_value])), (hln, .inl (cL, 512, .inl (fl)))] H)
    (kk : ∀ ls : Array Slot, lv_has ls 4 [(3, .int (nI x)), (2, .int (nI (bgs ln x))), (0, .ref h0), (1, .int (nI x))] → W p l e ({ frames := 0, cells := 0, slots := 0, locals := 0 } : Room) s m args below meth c H locs 0 0 Q (F0 m 37 ls [])) :
    ∀ (n j : Nat), j ≤ x → x < j + n → ∀ ls : Array Slot, lv_has ls 4 [(3, .int (nI j)), (2, .int (nI (bgs ln j))), (0, .ref h0), (1, .int (nI x))] → W p l e ({ frames := 0, cells := 0, slots := 0, locals := 0 } : Room) s m args below meth c H locs 0 0 Q (F0 m 4 ls []) := by
  intro n
  induction n with
  | zero => intro j  h1 h2; exact absurd h2 (by omega)
  | succ n ih =>
    intro j  hj hn  ls hl
    refine lv_iload_n hx hb d_O_begins_4 rfl (lv_at hl 0 rfl) ?_
    refine lv_iload_n hx hb d_O_begins_5 rfl (lv_at hl 3 rfl) ?_
    refine lv_icmp_ge (tgt := 37) hx hb d_O_begins_6 (by decide) (fun c_1 => ?_) (fun c_1 => ?_)
    · obtain rfl : j = x := x_geN (by omega) hj c_1
      exact kk ls (lv_sub hl [0, 1, 2, 3] rfl)
    · have hlt : j < x := x_ltN (by omega) hj c_1
      refine lv_iload_n hx hb d_O_begins_9 rfl (lv_at hl 1 rfl) ?_
      refine lv_aload_n hx hb d_O_begins_10 rfl (lv_at hl 2 rfl) ?_
      refine va_get (D := (dC, dI)) (ci := 7) (v := .ref hln) (C := R_O) (T := F_O) (N := 27) hx hb hw0 in_O hown hK hP 0 rfl rfl 9 (by decide) (hw0 (.fieldLink R_O 28 "TextKeeperModel" "lengths" "[S") (List.mem_of_getElem? (i := 207) rfl)) (fun _ h9 => h9) rfl d_O_begins_11 ?_
      refine lv_iload_n hx hb d_O_begins_14 rfl (lv_at hl 0 rfl) ?_
      refine va_sald hx hb hK hP 1 0 rfl rfl (vp_in_nI (by omega) (by decide)) d_O_begins_15 ?_
      refine lv_topi (fun x_2 ex_2 => ?_)
      refine lv_if_le (tgt := 28) hx hb d_O_begins_16 (by decide) (fun c_3 => ?_) (fun c_3 => ?_)
      · refine lv_iconst (v := 0) hx hb d_O_begins_28 (by decide) ?_
        refine lv_iadd hx hb d_O_begins_29 ?_
        refine lv_topi (fun x_4 ex_4 => ?_)
        obtain rfl : x_4 = (nI (bgs ln (j + 1))) := by rw [ex_4]; exact y_bg0 (by omega) (hfl j (by omega)) (fun v => hbd j v (by omega)) ex_2 c_3
        clear ex_4
        refine lv_istore_n (lv' := [(2, .int (nI (bgs ln (j + 1)))), (3, .int (nI j)), (0, .ref h0), (1, .int (nI x))]) hx hb d_O_begins_30 rfl hl (by decide) rfl (fun ls hl => ?_)
        refine lv_iinc (v := nI (j + 1)) (lv' := [(3, .int (nI (j + 1))), (2, .int (nI (bgs ln (j + 1)))), (0, .ref h0), (1, .int (nI x))]) hx hb d_O_begins_31 hl (k := 1) rfl (nI_1 j) (by decide) rfl (fun ls hl => ?_)
        refine lv_goto (tgt := 4) hx hb d_O_begins_34 (by decide) ?_
        exact ih (j + 1) hlt (by omega) ls (lv_sub hl [0, 1, 2, 3] rfl)
      · refine lv_aload_n hx hb d_O_begins_19 rfl (lv_at hl 2 rfl) ?_
        refine va_get (D := (dC, dI)) (ci := 7) (v := .ref hln) (C := R_O) (T := F_O) (N := 27) hx hb hw0 in_O hown hK hP 0 rfl rfl 9 (by decide) (hw0 (.fieldLink R_O 28 "TextKeeperModel" "lengths" "[S") (List.mem_of_getElem? (i := 207) rfl)) (fun _ h9 => h9) rfl d_O_begins_20 ?_
        refine lv_iload_n hx hb d_O_begins_23 rfl (lv_at hl 0 rfl) ?_
        refine va_sald hx hb hK hP 1 0 rfl rfl (vp_in_nI (by omega) (by decide)) d_O_begins_24 ?_
        refine lv_topi (fun x_5 ex_5 => ?_)
        refine lv_goto (tgt := 29) hx hb d_O_begins_25 (by decide) ?_
        refine lv_iadd hx hb d_O_begins_29 ?_
        refine lv_topi (fun x_6 ex_6 => ?_)
        obtain rfl : x_6 = (nI (bgs ln (j + 1))) := by rw [ex_6, ex_5]; exact y_bg1 (by omega) (hfl j (by omega)) ex_2 c_3
        clear ex_6
        refine lv_istore_n (lv' := [(2, .int (nI (bgs ln (j + 1)))), (3, .int (nI j)), (0, .ref h0), (1, .int (nI x))]) hx hb d_O_begins_30 rfl hl (by decide) rfl (fun ls hl => ?_)
        refine lv_iinc (v := nI (j + 1)) (lv' := [(3, .int (nI (j + 1))), (2, .int (nI (bgs ln (j + 1)))), (0, .ref h0), (1, .int (nI x))]) hx hb d_O_begins_31 hl (k := 1) rfl (nI_1 j) (by decide) rfl (fun ls hl => ?_)
        refine lv_goto (tgt := 4) hx hb d_O_begins_34 (by decide) ?_
        exact ih (j + 1) hlt (by omega) ls (lv_sub hl [0, 1, 2, 3] rfl)
set_option maxHeartbeats 4000000 in
set_option maxRecDepth 100000 in
theorem o_begins (l : Launch) (dC : Nat → ClassId) (dI : Nat → Nat → Nat) (h0 : Nat) (i_thrown : Int32) (i_down : Int32) (i_lasts : Int32) (v_buffer : Value) (i_size : Int32) (i_documents : Int32) (v_gone : Value) (v_first : Value) (v_many : Value) (v_authors : Value) (v_sums : Value) (v_row : Value) (v_made : Value) (i_madeSize : Int32) (v_base : Value) (i_baseSize : Int32) (v_text : Value) (i_textSize : Int32) (i_textSteps : Int32) (v_other : Value) (i_otherSize : Int32) (v_piece : Value) (i_pieceSize : Int32) (i_at : Int32) (i_end : Int32) (i_value : Int32) (hln : Nat) (cL : ClassId) (fl : Nat → Int32) (ln : Nat → Option Nat) (x : Nat) (hfl : ∀ j, j < 512 → fl j = vI (ln j)) (hbd : ∀ j v, j < 512 → ln j = some v → v ≤ 16384) (hx9 : x ≤ 512) : Met l y_O_begins k_O_begins ({ frames := 0, cells := 0, slots := 0, locals := 0 } : Room) (va_Pc [.ref h0, .int (nI x)] (pc_R (dC, dI) [(h0, .inr (7, [.int i_thrown, .int i_down, .int i_lasts, v_buffer, .int i_size, .int i_documents, v_gone, v_first, v_many, .ref hln, v_authors, v_sums, v_row, v_made, .int i_madeSize, v_base, .int i_baseSize, v_text, .int i_textSize, .int i_textSteps, v_other, .int i_otherSize, v_piece, .int i_pieceSize, .int i_at, .int i_end, .int i_value])), (hln, .inl (cL, 512, .inl (fl)))] [(cL, .short)])) (vp_Si (fun r => r = nI (bgs ln x))) 0 0 (fun _ => False) := by
  refine Met.ofW (cc := prog_9_method_10_code) (maxL := 4) (ret := (some .int)) (by decide) rfl ?_
  intro p e s m args below meth c s₁ B hml hv
  obtain ⟨rfl, hP, hK, hN⟩ := hv
  have hx := B.exec
  have hb := B.bytes
  have hr := B.returns
  have hts := atoms_spec (ws := k_O_begins) B.pre
  have hw0 : ∀ w ∈ w0, w.before _ s = true := fun w h => hts w (List.mem_cons_of_mem _ h)
  have hown : s.vm.findClass R_O = some m.cls := findClass_of_methodNamed B.named
  have hlocks := B.notSynchronized
  have hP : va_P (dC, dI) vwCl [(h0, .inr (7, [.int i_thrown, .int i_down, .int i_lasts, v_buffer, .int i_size, .int i_documents, v_gone, v_first, v_many, .ref hln, v_authors, v_sums, v_row, v_made, .int i_madeSize, v_base, .int i_baseSize, v_text, .int i_textSize, .int i_textSteps, v_other, .int i_otherSize, v_piece, .int i_pieceSize, .int i_at, .int i_end, .int i_value])), (hln, .inl (cL, 512, .inl (fl)))] s.heap := hP
  have hl := lv_entry ([.ref h0, .int (nI x)]) (n := 4) (Nat.le_of_ble_eq_true rfl)
  rw [lg_entry_eq]
  generalize (lg_sl ([.ref h0, .int (nI x)]) ++ List.replicate (4 - (lg_sl ([.ref h0, .int (nI x)])).length) Slot.unset).toArray = ls at hl ⊢
  have hl : lv_has ls 4 [(0, .ref h0), (1, .int (nI x))] := hl
  refine lv_iconst (v := 0) hx hb d_O_begins_0 (by decide) ?_
  refine lv_istore_n (lv' := [(2, .int 0), (0, .ref h0), (1, .int (nI x))]) hx hb d_O_begins_1 rfl hl (by decide) rfl (fun ls hl => ?_)
  refine lv_iconst (v := 0) hx hb d_O_begins_2 (by decide) ?_
  refine lv_istore_n (lv' := [(3, .int 0), (2, .int 0), (0, .ref h0), (1, .int (nI x))]) hx hb d_O_begins_3 rfl hl (by decide) rfl (fun ls hl => ?_)
  refine lo_beg h0 i_thrown i_down i_lasts v_buffer i_size i_documents v_gone v_first v_many v_authors v_sums v_row v_made i_madeSize v_base i_baseSize v_text i_textSize i_textSteps v_other i_otherSize v_piece i_pieceSize i_at i_end i_value hln cL fl ln x hfl hbd hx9 hx hb hml hown hw0 hN hK hP (fun ls hl => ?_) (x + 1) 0 (by omega) (by omega) ls (lv_sub hl [0, 1, 2, 3] rfl)
  refine lv_iload_n hx hb d_O_begins_37 rfl (lv_at hl 1 rfl) ?_
  exact W.iret (v := (nI (bgs ln x))) hx hb hr (fun t ht hW => ⟨(nI (bgs ln x)), rfl, rfl, ht⟩) (fun q h => by cases h) d_O_begins_38
set_option maxHeartbeats 4000000 in
set_option maxRecDepth 100000 in
theorem lo_sum {p : Program} {l : Launch} {e : Env} {s : State} {m : MethodId} {args : Array Value} {below : List Frame} {meth : Method} {c : Code} {dC : Nat → ClassId} {dI : Nat → Nat → Nat} {Q : State → Prop} {H : Heap} {locs : List Loc} (h0 : Nat) (i_thrown : Int32) (i_down : Int32) (i_lasts : Int32) (v_buffer : Value) (i_size : Int32) (i_documents : Int32) (v_gone : Value) (v_first : Value) (v_many : Value) (v_lengths : Value) (v_authors : Value) (v_sums : Value) (v_row : Value) (v_made : Value) (i_madeSize : Int32) (v_base : Value) (i_baseSize : Int32) (v_text : Value) (i_textSize : Int32) (i_textSteps : Int32) (v_other : Value) (i_otherSize : Int32) (v_piece : Value) (i_pieceSize : Int32) (i_at : Int32) (i_end : Int32) (i_value : Int32) (hs : Nat) (cB : ClassId) (k : Nat) (f : Nat → Int32) (L : List Int32) (htx : tx L k f) (hk : k ≤ 256)
    (hx : p.tables.exec = Jvm.exec) (hb : c.code = prog_9_method_26_code) (hml : c.maxLocals = 5) (hown : s.vm.findClass R_O = some m.cls) (hw0 : ∀ w ∈ w0, w.before args s = true) (hN : nw_ok s) (hK : va_K (dC, dI) vwCl [(cB, .byte)] s) (hP : va_P (dC, dI) vwCl [(h0, .inr (7, [.int i_thrown, .int i_down, .int i_lasts, v_buffer, .int i_size, .int i_documents, v_gone, v_first, v_many, v_lengths, v_authors, v_sums, v_row, v_made, .int i_madeSize, v_base, .int i_baseSize, v_text, .int i_textSize, .int i_textSteps, v_other, .int i_otherSize, v_piece, .int i_pieceSize, .int i_at, .int i_end, .int i_value])), (hs, .inl (cB, 256, .inl (f)))] H)
    (kk : ∀ ls : Array Slot, lv_has ls 5 [(4, .int (nI k)), (3, .int (sumL (L.take k))), (0, .ref h0), (1, .ref hs), (2, .int (nI k))] → W p l e ({ frames := 0, cells := 0, slots := 0, locals := 0 } : Room) s m args below meth c H locs 0 0 Q (F0 m 33 ls [])) :
    ∀ (n j : Nat), j ≤ k → k < j + n → ∀ ls : Array Slot, lv_has ls 5 [(4, .int (nI j)), (3, .int (sumL (L.take j))), (0, .ref h0), (1, .ref hs), (2, .int (nI k))] → W p l e ({ frames := 0, cells := 0, slots := 0, locals := 0 } : Room) s m args below meth c H locs 0 0 Q (F0 m 5 ls []) := by
  intro n
  induction n with
  | zero => intro j  h1 h2; exact absurd h2 (by omega)
  | succ n ih =>
    intro j  hj hn  ls hl
    refine lv_iload hx hb d_O_sum_5 (lv_at hl 0 rfl) ?_
    refine lv_iload_n hx hb d_O_sum_7 rfl (lv_at hl 4 rfl) ?_
    refine lv_icmp_ge (tgt := 33) hx hb d_O_sum_8 (by decide) (fun c_1 => ?_) (fun c_1 => ?_)
    · obtain rfl : j = k := x_geN (by omega) hj c_1
      exact kk ls (lv_sub hl [0, 1, 2, 3, 4] rfl)
    · have hlt : j < k := x_ltN (by omega) hj c_1
      refine lv_iload_n hx hb d_O_sum_11 rfl (lv_at hl 1 rfl) ?_
      refine lv_bipush (v := 31) hx hb d_O_sum_12 (by decide +kernel) ?_
      refine lv_imul hx hb d_O_sum_14 ?_
      refine lv_topi (fun x_2 ex_2 => ?_)
      refine lv_aload_n hx hb d_O_sum_15 rfl (lv_at hl 3 rfl) ?_
      refine lv_iload hx hb d_O_sum_16 (lv_at hl 0 rfl) ?_
      refine va_bald hx hb hK hP 1 0 rfl rfl (vp_in_nI (by omega) (by decide)) d_O_sum_18 ?_
      refine lv_topi (fun x_3 ex_3 => ?_)
      refine lv_sipush (v := 255) hx hb d_O_sum_19 (by decide +kernel) ?_
      refine lv_iand hx hb d_O_sum_22 ?_
      refine lv_topi (fun x_4 ex_4 => ?_)
      refine lv_iadd hx hb d_O_sum_23 ?_
      refine lv_topi (fun x_5 ex_5 => ?_)
      refine lv_iconst (v := 1) hx hb d_O_sum_24 (by decide) ?_
      refine lv_iadd hx hb d_O_sum_25 ?_
      refine lv_topi (fun x_6 ex_6 => ?_)
      obtain rfl : x_6 = (sumL (L.take (j + 1))) := by rw [ex_6, ex_5, ex_2, ex_4, ex_3]; rw [sumL_take (by rw [htx.1]; exact hlt), nI_clamp (by omega), tx_at htx hlt]
      clear ex_6
      refine lv_istore_n (lv' := [(3, .int (sumL (L.take (j + 1)))), (4, .int (nI j)), (0, .ref h0), (1, .ref hs), (2, .int (nI k))]) hx hb d_O_sum_26 rfl hl (by decide) rfl (fun ls hl => ?_)
      refine lv_iinc (v := nI (j + 1)) (lv' := [(4, .int (nI (j + 1))), (3, .int (sumL (L.take (j + 1)))), (0, .ref h0), (1, .ref hs), (2, .int (nI k))]) hx hb d_O_sum_27 hl (k := 1) rfl (nI_1 j) (by decide) rfl (fun ls hl => ?_)
      refine lv_goto (tgt := 5) hx hb d_O_sum_30 (by decide) ?_
      exact ih (j + 1) hlt (by omega) ls (lv_sub hl [0, 1, 2, 3, 4] rfl)
set_option maxHeartbeats 4000000 in
set_option maxRecDepth 100000 in
theorem o_sum (l : Launch) (dC : Nat → ClassId) (dI : Nat → Nat → Nat) (h0 : Nat) (i_thrown : Int32) (i_down : Int32) (i_lasts : Int32) (v_buffer : Value) (i_size : Int32) (i_documents : Int32) (v_gone : Value) (v_first : Value) (v_many : Value) (v_lengths : Value) (v_authors : Value) (v_sums : Value) (v_row : Value) (v_made : Value) (i_madeSize : Int32) (v_base : Value) (i_baseSize : Int32) (v_text : Value) (i_textSize : Int32) (i_textSteps : Int32) (v_other : Value) (i_otherSize : Int32) (v_piece : Value) (i_pieceSize : Int32) (i_at : Int32) (i_end : Int32) (i_value : Int32) (hs : Nat) (cB : ClassId) (k : Nat) (f : Nat → Int32) (L : List Int32) (htx : tx L k f) (hk : k ≤ 256) : Met l y_O_sum k_O_sum ({ frames := 0, cells := 0, slots := 0, locals := 0 } : Room) (va_Pc [.ref h0, .ref hs, .int (nI k)] (pc_R (dC, dI) [(h0, .inr (7, [.int i_thrown, .int i_down, .int i_lasts, v_buffer, .int i_size, .int i_documents, v_gone, v_first, v_many, v_lengths, v_authors, v_sums, v_row, v_made, .int i_madeSize, v_base, .int i_baseSize, v_text, .int i_textSize, .int i_textSteps, v_other, .int i_otherSize, v_piece, .int i_pieceSize, .int i_at, .int i_end, .int i_value])), (hs, .inl (cB, 256, .inl (f)))] [(cB, .byte)])) (vp_Si (fun r => r = sumL L)) 0 0 (fun _ => False) := by
  refine Met.ofW (cc := prog_9_method_26_code) (maxL := 5) (ret := (some .int)) (by decide) rfl ?_
  intro p e s m args below meth c s₁ B hml hv
  obtain ⟨rfl, hP, hK, hN⟩ := hv
  have hx := B.exec
  have hb := B.bytes
  have hr := B.returns
  have hts := atoms_spec (ws := k_O_sum) B.pre
  have hw0 : ∀ w ∈ w0, w.before _ s = true := fun w h => hts w (List.mem_cons_of_mem _ h)
  have hown : s.vm.findClass R_O = some m.cls := findClass_of_methodNamed B.named
  have hlocks := B.notSynchronized
  have hP : va_P (dC, dI) vwCl [(h0, .inr (7, [.int i_thrown, .int i_down, .int i_lasts, v_buffer, .int i_size, .int i_documents, v_gone, v_first, v_many, v_lengths, v_authors, v_sums, v_row, v_made, .int i_madeSize, v_base, .int i_baseSize, v_text, .int i_textSize, .int i_textSteps, v_other, .int i_otherSize, v_piece, .int i_pieceSize, .int i_at, .int i_end, .int i_value])), (hs, .inl (cB, 256, .inl (f)))] s.heap := hP
  have hl := lv_entry ([.ref h0, .ref hs, .int (nI k)]) (n := 5) (Nat.le_of_ble_eq_true rfl)
  rw [lg_entry_eq]
  generalize (lg_sl ([.ref h0, .ref hs, .int (nI k)]) ++ List.replicate (5 - (lg_sl ([.ref h0, .ref hs, .int (nI k)])).length) Slot.unset).toArray = ls at hl ⊢
  have hl : lv_has ls 5 [(0, .ref h0), (1, .ref hs), (2, .int (nI k))] := hl
  refine lv_iconst (v := 0) hx hb d_O_sum_0 (by decide) ?_
  refine lv_istore_n (lv' := [(3, .int 0), (0, .ref h0), (1, .ref hs), (2, .int (nI k))]) hx hb d_O_sum_1 rfl hl (by decide) rfl (fun ls hl => ?_)
  refine lv_iconst (v := 0) hx hb d_O_sum_2 (by decide) ?_
  refine lv_istore (lv' := [(4, .int 0), (3, .int 0), (0, .ref h0), (1, .ref hs), (2, .int (nI k))]) hx hb d_O_sum_3 hl (by decide) rfl (fun ls hl => ?_)
  refine lo_sum h0 i_thrown i_down i_lasts v_buffer i_size i_documents v_gone v_first v_many v_lengths v_authors v_sums v_row v_made i_madeSize v_base i_baseSize v_text i_textSize i_textSteps v_other i_otherSize v_piece i_pieceSize i_at i_end i_value hs cB k f L htx hk hx hb hml hown hw0 hN hK hP (fun ls hl => ?_) (k + 1) 0 (by omega) (by omega) ls (lv_sub hl [0, 1, 2, 3, 4] rfl)
  refine lv_iload_n hx hb d_O_sum_33 rfl (lv_at hl 1 rfl) ?_
  exact W.iret (v := (sumL (L.take k))) hx hb hr (fun t ht hW => ⟨(sumL (L.take k)), rfl, (by rw [← htx.1, List.take_length]), ht⟩) (fun q h => by cases h) d_O_sum_34
set_option maxHeartbeats 4000000 in
set_option maxRecDepth 100000 in
theorem lo_mak {p : Program} {l : Launch} {e : Env} {s : State} {m : MethodId} {args : Array Value} {below : List Frame} {meth : Method} {c : Code} {dC : Nat → ClassId} {dI : Nat → Nat → Nat} {A : Nat → Prop} {Q : State → Prop} (h0 : Nat) (i_thrown : Int32) (i_down : Int32) (i_lasts : Int32) (v_buffer : Value) (i_size : Int32) (i_documents : Int32) (v_gone : Value) (v_first : Value) (v_many : Value) (v_lengths : Value) (v_authors : Value) (v_sums : Value) (v_text : Value) (i_textSize : Int32) (i_textSteps : Int32) (v_other : Value) (i_otherSize : Int32) (v_piece : Value) (i_pieceSize : Int32) (hmade : Nat) (cM : ClassId) (hbase : Nat) (cB : ClassId) (kb : Nat) (fb : Nat → Int32) (Bs : List Int32) (hrow : Nat) (cW : ClassId) (fr : Nat → Int32) (S : List Int32) (en : Nat) (b0 : Nat) (RR : Option (List Int32)) (pl : va_W) (htb : tx Bs kb fb) (hsx : sx S b0 fr) (hkb : kb ≤ 256) (hen : en = b0 + S.length)
    (hx : p.tables.exec = Jvm.exec) (hb : c.code = prog_9_method_19_code) (hml : c.maxLocals = 3) (hown : s.vm.findClass R_O = some m.cls) (hw0 : ∀ w ∈ w0, w.before args s = true) (hN : nw_ok s) (hK : va_K (dC, dI) vwCl [(cM, .byte), (cB, .byte), (cW, .byte)] s) (hA : ∀ q : Nat, s.heap.size ≤ q → A q)
    (kk : ∀ (ab : Nat) (k : Nat) (f : Nat → Int32) (T : List Int32) (vv : Int32) (F : Nat), (ab = b0 + S.length) → (tx T k f) → (k ≤ 256) → (mkF S Bs F T S.length = RR) → (S.length ≤ S.length + F) → ∀ (H : Heap) (locs : List Loc), va_P (dC, dI) vwCl (([(h0, .inr (7, [.int i_thrown, .int i_down, .int i_lasts, v_buffer, .int i_size, .int i_documents, v_gone, v_first, v_many, v_lengths, v_authors, v_sums, .ref hrow, .ref hmade, .int (nI k), .ref hbase, .int (nI kb), v_text, .int i_textSize, .int i_textSteps, v_other, .int i_otherSize, v_piece, .int i_pieceSize, .int (nI ab), .int (nI en), .int vv])), (hmade, .inl (cM, 256, .inl (f))), (hbase, .inl (cB, 256, .inl (fb))), (hrow, .inl (cW, 16384, .inl (fr)))] : va_W) ++ pl) H → va_D A (([(h0, .inr (7, [.int i_thrown, .int i_down, .int i_lasts, v_buffer, .int i_size, .int i_documents, v_gone, v_first, v_many, v_lengths, v_authors, v_sums, .ref hrow, .ref hmade, .int (nI k), .ref hbase, .int (nI kb), v_text, .int i_textSize, .int i_textSteps, v_other, .int i_otherSize, v_piece, .int i_pieceSize, .int (nI ab), .int (nI en), .int vv])), (hmade, .inl (cM, 256, .inl (f))), (hbase, .inl (cB, 256, .inl (fb))), (hrow, .inl (cW, 16384, .inl (fr)))] : va_W) ++ pl) → va_S A s.heap H locs → ∀ ls : Array Slot, lv_has ls 3 [(0, .ref h0)] → W p l e ({ frames := 2, cells := 0, slots := 0, locals := 46 } : Room) s m args below meth c H locs 0 0 Q (F0 m 87 ls []))
    (kk2 : ∀ (ab : Nat) (k : Nat) (f : Nat → Int32) (T : List Int32) (vv : Int32), (tx T k f) → (k ≤ 256) → (RR = none) → ∀ (H : Heap) (locs : List Loc), va_P (dC, dI) vwCl (([(h0, .inr (7, [.int i_thrown, .int i_down, .int i_lasts, v_buffer, .int i_size, .int i_documents, v_gone, v_first, v_many, v_lengths, v_authors, v_sums, .ref hrow, .ref hmade, .int (nI k), .ref hbase, .int (nI kb), v_text, .int i_textSize, .int i_textSteps, v_other, .int i_otherSize, v_piece, .int i_pieceSize, .int (nI ab), .int (nI en), .int vv])), (hmade, .inl (cM, 256, .inl (f))), (hbase, .inl (cB, 256, .inl (fb))), (hrow, .inl (cW, 16384, .inl (fr)))] : va_W) ++ pl) H → va_D A (([(h0, .inr (7, [.int i_thrown, .int i_down, .int i_lasts, v_buffer, .int i_size, .int i_documents, v_gone, v_first, v_many, v_lengths, v_authors, v_sums, .ref hrow, .ref hmade, .int (nI k), .ref hbase, .int (nI kb), v_text, .int i_textSize, .int i_textSteps, v_other, .int i_otherSize, v_piece, .int i_pieceSize, .int (nI ab), .int (nI en), .int vv])), (hmade, .inl (cM, 256, .inl (f))), (hbase, .inl (cB, 256, .inl (fb))), (hrow, .inl (cW, 16384, .inl (fr)))] : va_W) ++ pl) → va_S A s.heap H locs → ∀ ls : Array Slot, lv_has ls 3 [(0, .ref h0)] → W p l e ({ frames := 2, cells := 0, slots := 0, locals := 46 } : Room) s m args below meth c H locs 0 0 Q (F0 m 85 ls [])) :
    ∀ (n a : Nat), a ≤ S.length → S.length < a + n → ∀ (ab : Nat) (k : Nat) (f : Nat → Int32) (T : List Int32) (vv : Int32) (F : Nat), (ab = b0 + a) → (tx T k f) → (k ≤ 256) → (mkF S Bs F T a = RR) → (S.length ≤ a + F) → ∀ (H : Heap) (locs : List Loc), va_P (dC, dI) vwCl (([(h0, .inr (7, [.int i_thrown, .int i_down, .int i_lasts, v_buffer, .int i_size, .int i_documents, v_gone, v_first, v_many, v_lengths, v_authors, v_sums, .ref hrow, .ref hmade, .int (nI k), .ref hbase, .int (nI kb), v_text, .int i_textSize, .int i_textSteps, v_other, .int i_otherSize, v_piece, .int i_pieceSize, .int (nI ab), .int (nI en), .int vv])), (hmade, .inl (cM, 256, .inl (f))), (hbase, .inl (cB, 256, .inl (fb))), (hrow, .inl (cW, 16384, .inl (fr)))] : va_W) ++ pl) H → va_D A (([(h0, .inr (7, [.int i_thrown, .int i_down, .int i_lasts, v_buffer, .int i_size, .int i_documents, v_gone, v_first, v_many, v_lengths, v_authors, v_sums, .ref hrow, .ref hmade, .int (nI k), .ref hbase, .int (nI kb), v_text, .int i_textSize, .int i_textSteps, v_other, .int i_otherSize, v_piece, .int i_pieceSize, .int (nI ab), .int (nI en), .int vv])), (hmade, .inl (cM, 256, .inl (f))), (hbase, .inl (cB, 256, .inl (fb))), (hrow, .inl (cW, 16384, .inl (fr)))] : va_W) ++ pl) → va_S A s.heap H locs → ∀ ls : Array Slot, lv_has ls 3 [(0, .ref h0)] → W p l e ({ frames := 2, cells := 0, slots := 0, locals := 46 } : Room) s m args below meth c H locs 0 0 Q (F0 m 67 ls []) := by
  intro n
  induction n with
  | zero => intro a h1 h2; exact absurd h2 (by omega)
  | succ n ih =>
    intro a hj hn ab k f T vv F hf0 hf1 hf2 hf3 hf4 H locs hP hD hS ls hl
    refine lv_aload_n hx hb d_O_makes_67 rfl (lv_at hl 0 rfl) ?_
    refine va_get (D := (dC, dI)) (ci := 7) (v := .int (nI ab)) (C := R_O) (T := F_O) (N := 27) hx hb hw0 in_O hown hK hP 0 rfl rfl 24 (by decide) (hw0 (.fieldLink R_O 103 "TextKeeperModel" "at" "I") (List.mem_of_getElem? (i := 180) rfl)) (fun _ h9 => h9) rfl d_O_makes_68 ?_
    refine lv_aload_n hx hb d_O_makes_71 rfl (lv_at hl 0 rfl) ?_
    refine va_get (D := (dC, dI)) (ci := 7) (v := .int (nI en)) (C := R_O) (T := F_O) (N := 27) hx hb hw0 in_O hown hK hP 0 rfl rfl 25 (by decide) (hw0 (.fieldLink R_O 106 "TextKeeperModel" "end" "I") (List.mem_of_getElem? (i := 181) rfl)) (fun _ h9 => h9) rfl d_O_makes_72 ?_
    refine lv_icmp_ge (tgt := 87) hx hb d_O_makes_75 (by decide) (fun c_1 => ?_) (fun c_1 => ?_)
    · have hl9 := hsx.2.2
      obtain rfl : a = S.length := (by have h8 := (nI_leI (by omega) (by omega)).mp c_1; omega)
      exact kk ab k f T vv F hf0 hf1 hf2 hf3 hf4 _ _ hP hD hS ls (lv_sub hl [0] rfl)
    · have hl9 := hsx.2.2; have hlt : a < S.length := (by rcases Nat.lt_or_ge a S.length with z | z; exact z; exact absurd (nI_le (by omega) (by omega)) c_1); obtain ⟨F1, rfl⟩ : ∃ z, F = z + 1 := ⟨F - 1, by omega⟩; have ha9 : a ≤ S.length := Nat.le_of_lt hlt
      refine lv_aload_n hx hb d_O_makes_78 rfl (lv_at hl 0 rfl) ?_
      have hPc := hP.sub (ws' := [(h0, .inr (7, [.int i_thrown, .int i_down, .int i_lasts, v_buffer, .int i_size, .int i_documents, v_gone, v_first, v_many, v_lengths, v_authors, v_sums, .ref hrow, .ref hmade, .int (nI k), .ref hbase, .int (nI kb), v_text, .int i_textSize, .int i_textSteps, v_other, .int i_otherSize, v_piece, .int i_pieceSize, .int (nI ab), .int (nI en), .int vv])), (hmade, .inl (cM, 256, .inl ((f)))), (hbase, .inl (cB, 256, .inl ((fb)))), (hrow, .inl (cW, 16384, .inl ((fr))))]) [0, 1, 2, 3] rfl
      have hKc := hK.sub (tys' := [(cM, .byte), (cB, .byte), (cW, .byte)]) [0, 1, 2] rfl
      have hDc := hD.sub (ws' := [(h0, .inr (7, [.int i_thrown, .int i_down, .int i_lasts, v_buffer, .int i_size, .int i_documents, v_gone, v_first, v_many, v_lengths, v_authors, v_sums, .ref hrow, .ref hmade, .int (nI k), .ref hbase, .int (nI kb), v_text, .int i_textSize, .int i_textSteps, v_other, .int i_otherSize, v_piece, .int i_pieceSize, .int (nI ab), .int (nI en), .int vv])), (hmade, .inl (cM, 256, .inl ((f)))), (hbase, .inl (cB, 256, .inl ((fb)))), (hrow, .inl (cW, 16384, .inl ((fr))))]) [0, 1, 2, 3] (by decide) rfl
      have hFc := va_free (wc := [(h0, .inr (7, [.int i_thrown, .int i_down, .int i_lasts, v_buffer, .int i_size, .int i_documents, v_gone, v_first, v_many, v_lengths, v_authors, v_sums, .ref hrow, .ref hmade, .int (nI k), .ref hbase, .int (nI kb), v_text, .int i_textSize, .int i_textSteps, v_other, .int i_otherSize, v_piece, .int i_pieceSize, .int (nI ab), .int (nI en), .int vv])), (hmade, .inl (cM, 256, .inl ((f)))), (hbase, .inl (cB, 256, .inl ((fb)))), (hrow, .inl (cW, 16384, .inl ((fr))))]) hD hS hA [0, 1, 2, 3] rfl
      refine va_calli (va_runV (As := []) (rest := []) ⟨hx, hb, hml, hown, hw0⟩ (o_command l dC dI H.size h0 i_thrown i_down i_lasts v_buffer i_size i_documents v_gone v_first v_many v_lengths v_authors v_sums v_text i_textSize i_textSteps v_other i_otherSize v_piece i_pieceSize vv hmade cM k _ hbase cB kb (fb) _ hrow cW (fr) _ ab en _ _ (f) (by first | assumption | decide | omega) (by first | assumption | decide | omega) (by first | assumption | decide | omega) (by first | assumption | decide | omega) (by first | assumption | decide | omega) (by first | assumption | decide | omega) (by first | assumption | decide | omega) (by first | assumption | decide | omega)) (cwV 0 hw0 (gd_V 208 209 210 161 211 rfl rfl rfl rfl rfl) rfl rfl rfl (by decide +kernel) ⟨by decide +kernel, by decide +kernel⟩) (prV_E hPc hKc hDc hN (va_recv hKc hPc (ci := 7) (q0 := 0) rfl rfl)) rfl rfl hl.1 rfl (lv_room (Nat.le_of_ble_eq_true rfl)) d_O_makes_79 ⟨by decide +kernel, by decide +kernel⟩) hS (fun q _ h => hFc q h) hFc (fun r_2 u t H1 locs ht hvm hw hB hz1 hk1 hS => ?_)
      obtain ⟨a2_3, ab2_4, k2_5, f2_6, T2_7, vv_8, ⟨hu_9_0, hu_9_1⟩, hP1, hK1, hD1⟩ := hB
      rw [ht] at hP1
      have hK1 := va_K.moved hvm.symm hK1
      try dsimp only at hw
      obtain ⟨hP, hD⟩ := va_joinQ (wr := []) (w1 := [(h0, .inr (7, [.int i_thrown, .int i_down, .int i_lasts, v_buffer, .int i_size, .int i_documents, v_gone, v_first, v_many, v_lengths, v_authors, v_sums, .ref hrow, .ref hmade, .int (nI k2_5), .ref hbase, .int (nI kb), v_text, .int i_textSize, .int i_textSteps, v_other, .int i_otherSize, v_piece, .int i_pieceSize, .int (nI ab2_4), .int (nI en), .int vv_8])), (hmade, .inl (cM, 256, .inl (f2_6))), (hbase, .inl (cB, 256, .inl ((fb)))), (hrow, .inl (cW, 16384, .inl ((fr))))]) hP hD [0, 1, 2, 3] [] rfl rfl (by decide) (by decide) hk1 hFc hP1 hD1
      generalize H1 = H at hP hS ⊢
      replace hP : va_P (dC, dI) vwCl (([(h0, .inr (7, [.int i_thrown, .int i_down, .int i_lasts, v_buffer, .int i_size, .int i_documents, v_gone, v_first, v_many, v_lengths, v_authors, v_sums, .ref hrow, .ref hmade, .int (nI k2_5), .ref hbase, .int (nI kb), v_text, .int i_textSize, .int i_textSteps, v_other, .int i_otherSize, v_piece, .int i_pieceSize, .int (nI ab2_4), .int (nI en), .int vv_8])), (hmade, .inl (cM, 256, .inl (f2_6))), (hbase, .inl (cB, 256, .inl ((fb)))), (hrow, .inl (cW, 16384, .inl ((fr))))] : va_W) ++ pl) H := hP
      replace hD : va_D A (([(h0, .inr (7, [.int i_thrown, .int i_down, .int i_lasts, v_buffer, .int i_size, .int i_documents, v_gone, v_first, v_many, v_lengths, v_authors, v_sums, .ref hrow, .ref hmade, .int (nI k2_5), .ref hbase, .int (nI kb), v_text, .int i_textSize, .int i_textSteps, v_other, .int i_otherSize, v_piece, .int i_pieceSize, .int (nI ab2_4), .int (nI en), .int vv_8])), (hmade, .inl (cM, 256, .inl (f2_6))), (hbase, .inl (cB, 256, .inl ((fb)))), (hrow, .inl (cW, 16384, .inl ((fr))))] : va_W) ++ pl) := hD
      replace hK : va_K (dC, dI) vwCl [(cM, .byte), (cB, .byte), (cW, .byte)] s := hK
      have hw_10 := hw
      rcases hq9 : cmd S Bs T a with _ | y
      · rw [hq9] at hw_10; obtain rfl : r_2 = 0 := hw_10
        refine lv_if_ne (tgt := 67) hx hb d_O_makes_82 (by decide) (fun h9 => absurd h9 (by decide +kernel)) (fun _ => ?_)
        exact kk2 ab2_4 k2_5 f2_6 T2_7 vv_8 hu_9_0.1 hu_9_0.2.1 (by rw [← hf3, mkF_no hlt hq9]) _ _ (hP.part (cx := [(h0, .inr (7, [.int i_thrown, .int i_down, .int i_lasts, v_buffer, .int i_size, .int i_documents, v_gone, v_first, v_many, v_lengths, v_authors, v_sums, .ref hrow, .ref hmade, .int (nI k2_5), .ref hbase, .int (nI kb), v_text, .int i_textSize, .int i_textSteps, v_other, .int i_otherSize, v_piece, .int i_pieceSize, .int (nI ab2_4), .int (nI en), .int vv_8])), (hmade, .inl (cM, 256, .inl (f2_6))), (hbase, .inl (cB, 256, .inl (fb))), (hrow, .inl (cW, 16384, .inl (fr)))]) [0, 1, 2, 3] rfl) (hD.part (cx := [(h0, .inr (7, [.int i_thrown, .int i_down, .int i_lasts, v_buffer, .int i_size, .int i_documents, v_gone, v_first, v_many, v_lengths, v_authors, v_sums, .ref hrow, .ref hmade, .int (nI k2_5), .ref hbase, .int (nI kb), v_text, .int i_textSize, .int i_textSteps, v_other, .int i_otherSize, v_piece, .int i_pieceSize, .int (nI ab2_4), .int (nI en), .int vv_8])), (hmade, .inl (cM, 256, .inl (f2_6))), (hbase, .inl (cB, 256, .inl (fb))), (hrow, .inl (cW, 16384, .inl (fr)))]) [0, 1, 2, 3] (by decide) rfl) hS ls (lv_sub hl [0] rfl)
      · rw [hq9] at hw_10; obtain rfl : r_2 = 1 := hw_10; have h7 := hu_9_1 y hq9; have h6 := cmd_lt (Nat.le_of_lt hlt) hq9
        refine lv_if_ne (tgt := 67) hx hb d_O_makes_82 (by decide) (fun _ => ?_) (fun h9 => absurd h9 (by decide +kernel))
        exact ih a2_3 hu_9_0.2.2.2 (by omega) ab2_4 k2_5 f2_6 T2_7 vv_8 F1 hu_9_0.2.2.1 hu_9_0.1 hu_9_0.2.1 (by rw [← hf3, mkF_yes hlt hq9, h7.1, h7.2]) (by omega) _ _ (hP.part (cx := [(h0, .inr (7, [.int i_thrown, .int i_down, .int i_lasts, v_buffer, .int i_size, .int i_documents, v_gone, v_first, v_many, v_lengths, v_authors, v_sums, .ref hrow, .ref hmade, .int (nI k2_5), .ref hbase, .int (nI kb), v_text, .int i_textSize, .int i_textSteps, v_other, .int i_otherSize, v_piece, .int i_pieceSize, .int (nI ab2_4), .int (nI en), .int vv_8])), (hmade, .inl (cM, 256, .inl (f2_6))), (hbase, .inl (cB, 256, .inl (fb))), (hrow, .inl (cW, 16384, .inl (fr)))]) [0, 1, 2, 3] rfl) (hD.part (cx := [(h0, .inr (7, [.int i_thrown, .int i_down, .int i_lasts, v_buffer, .int i_size, .int i_documents, v_gone, v_first, v_many, v_lengths, v_authors, v_sums, .ref hrow, .ref hmade, .int (nI k2_5), .ref hbase, .int (nI kb), v_text, .int i_textSize, .int i_textSteps, v_other, .int i_otherSize, v_piece, .int i_pieceSize, .int (nI ab2_4), .int (nI en), .int vv_8])), (hmade, .inl (cM, 256, .inl (f2_6))), (hbase, .inl (cB, 256, .inl (fb))), (hrow, .inl (cW, 16384, .inl (fr)))]) [0, 1, 2, 3] (by decide) rfl) hS ls (lv_sub hl [0] rfl)
set_option maxHeartbeats 4000000 in
set_option maxRecDepth 100000 in
theorem lq_mak {p : Program} {l : Launch} {e : Env} {s : State} {m : MethodId} {args : Array Value} {below : List Frame} {meth : Method} {c : Code} {dC : Nat → ClassId} {dI : Nat → Nat → Nat} {A : Nat → Prop} {Q : State → Prop} (h0 : Nat) (hba : Nat) (hta : Nat) (hpi : Nat) (hty : Nat) (cT : ClassId) (hby : Nat) (cB : ClassId) (kb : Nat) (fb : Nat → Int32) (Bs : List Int32) (cP : ClassId) (np : Nat) (fp : Nat → Int32) (S : List Int32) (RR : Option (List Int32)) (pl : va_W) (htb : tx Bs kb fb) (hs9 : tx S np fp) (hkb : kb ≤ 256) (hnp : np ≤ 16384)
    (hx : p.tables.exec = Jvm.exec) (hb : c.code = prog_3_method_4_code) (hml : c.maxLocals = 7) (hown : s.vm.findClass R_M = some m.cls) (hw0 : ∀ w ∈ w0, w.before args s = true) (hN : nw_ok s) (hK : va_K (dC, dI) vwCl [(cT, .byte), (cB, .byte), (cP, .byte)] s) (hA : ∀ q : Nat, s.heap.size ≤ q → A q)
    (kk : ∀ (cnt : Nat) (k : Nat) (f : Nat → Int32) (T : List Int32) (F : Nat), (cnt ≤ np) → (tx T k f) → (k ≤ 256) → (mkF S Bs F T np = RR) → (np ≤ np + F) → ∀ (H : Heap) (locs : List Loc), va_P (dC, dI) vwCl (([(h0, .inr (2, [.ref hba, .ref hta, .ref hpi, .int (nI np)])), (hta, .inr (1, [.ref hty, .int (nI k)])), (hty, .inl (cT, 256, .inl (f))), (hba, .inr (1, [.ref hby, .int (nI kb)])), (hby, .inl (cB, 256, .inl (fb))), (hpi, .inl (cP, np, .inl (fp)))] : va_W) ++ pl) H → va_D A (([(h0, .inr (2, [.ref hba, .ref hta, .ref hpi, .int (nI np)])), (hta, .inr (1, [.ref hty, .int (nI k)])), (hty, .inl (cT, 256, .inl (f))), (hba, .inr (1, [.ref hby, .int (nI kb)])), (hby, .inl (cB, 256, .inl (fb))), (hpi, .inl (cP, np, .inl (fp)))] : va_W) ++ pl) → va_S A s.heap H locs → ∀ ls : Array Slot, lv_has ls 7 [(6, .int (nI cnt)), (5, .int 1), (0, .ref h0)] → W p l e ({ frames := 3, cells := 0, slots := 0, locals := 68 } : Room) s m args below meth c H locs 0 0 Q (F0 m 99 ls []))
    (kk2 : ∀ (a : Nat) (k : Nat) (f : Nat → Int32) (T : List Int32), (tx T k f) → (k ≤ 256) → (RR = none) → ∀ (H : Heap) (locs : List Loc), va_P (dC, dI) vwCl (([(h0, .inr (2, [.ref hba, .ref hta, .ref hpi, .int (nI a)])), (hta, .inr (1, [.ref hty, .int (nI k)])), (hty, .inl (cT, 256, .inl (f))), (hba, .inr (1, [.ref hby, .int (nI kb)])), (hby, .inl (cB, 256, .inl (fb))), (hpi, .inl (cP, np, .inl (fp)))] : va_W) ++ pl) H → va_D A (([(h0, .inr (2, [.ref hba, .ref hta, .ref hpi, .int (nI a)])), (hta, .inr (1, [.ref hty, .int (nI k)])), (hty, .inl (cT, 256, .inl (f))), (hba, .inr (1, [.ref hby, .int (nI kb)])), (hby, .inl (cB, 256, .inl (fb))), (hpi, .inl (cP, np, .inl (fp)))] : va_W) ++ pl) → va_S A s.heap H locs → ∀ ls : Array Slot, lv_has ls 7 [(5, .int 0), (0, .ref h0)] → W p l e ({ frames := 3, cells := 0, slots := 0, locals := 68 } : Room) s m args below meth c H locs 0 0 Q (F0 m 99 ls [])) :
    ∀ (n a : Nat), a ≤ np → np < a + n → ∀ (cnt : Nat) (k : Nat) (f : Nat → Int32) (T : List Int32) (F : Nat), (cnt ≤ a) → (tx T k f) → (k ≤ 256) → (mkF S Bs F T a = RR) → (np ≤ a + F) → ∀ (H : Heap) (locs : List Loc), va_P (dC, dI) vwCl (([(h0, .inr (2, [.ref hba, .ref hta, .ref hpi, .int (nI a)])), (hta, .inr (1, [.ref hty, .int (nI k)])), (hty, .inl (cT, 256, .inl (f))), (hba, .inr (1, [.ref hby, .int (nI kb)])), (hby, .inl (cB, 256, .inl (fb))), (hpi, .inl (cP, np, .inl (fp)))] : va_W) ++ pl) H → va_D A (([(h0, .inr (2, [.ref hba, .ref hta, .ref hpi, .int (nI a)])), (hta, .inr (1, [.ref hty, .int (nI k)])), (hty, .inl (cT, 256, .inl (f))), (hba, .inr (1, [.ref hby, .int (nI kb)])), (hby, .inl (cB, 256, .inl (fb))), (hpi, .inl (cP, np, .inl (fp)))] : va_W) ++ pl) → va_S A s.heap H locs → ∀ ls : Array Slot, lv_has ls 7 [(6, .int (nI cnt)), (5, .int 1), (0, .ref h0)] → W p l e ({ frames := 3, cells := 0, slots := 0, locals := 68 } : Room) s m args below meth c H locs 0 0 Q (F0 m 60 ls []) := by
  intro n
  induction n with
  | zero => intro a h1 h2; exact absurd h2 (by omega)
  | succ n ih =>
    intro a hj hn cnt k f T F hf0 hf1 hf2 hf3 hf4 H locs hP hD hS ls hl
    refine lv_iload hx hb d_M_makeNext_60 (lv_at hl 0 rfl) ?_
    refine lv_aload_n hx hb d_M_makeNext_62 rfl (lv_at hl 2 rfl) ?_
    refine va_get (D := (dC, dI)) (ci := 2) (v := .ref hpi) (C := R_M) (T := F_M) (N := 4) hx hb hw0 in_M hown hK hP 0 rfl rfl 2 (by decide) (hw0 (.fieldLink R_M 21 "TextKeeper$Maker" "piece" "[B") (List.mem_of_getElem? (i := 75) rfl)) (fun _ h9 => h9) rfl d_M_makeNext_63 ?_
    refine va_alen (v := nI np) hx hb hK hP 5 2 rfl rfl (rfl) d_M_makeNext_66 ?_
    refine lv_icmp_ge (tgt := 99) hx hb d_M_makeNext_67 (by decide) (fun c_1 => ?_) (fun c_1 => ?_)
    · obtain rfl : a = np := (by have h8 := (nI_leI (by omega) (by omega)).mp c_1; omega)
      exact kk cnt k f T F hf0 hf1 hf2 hf3 hf4 _ _ hP hD hS ls (lv_sub hl [0, 1, 2] rfl)
    · refine lv_aload_n hx hb d_M_makeNext_70 rfl (lv_at hl 2 rfl) ?_
      refine va_get (D := (dC, dI)) (ci := 2) (v := .int (nI a)) (C := R_M) (T := F_M) (N := 4) hx hb hw0 in_M hown hK hP 0 rfl rfl 3 (by decide) (hw0 (.fieldLink R_M 25 "TextKeeper$Maker" "at" "I") (List.mem_of_getElem? (i := 76) rfl)) (fun _ h9 => h9) rfl d_M_makeNext_71 ?_
      refine lv_aload_n hx hb d_M_makeNext_74 rfl (lv_at hl 2 rfl) ?_
      refine va_get (D := (dC, dI)) (ci := 2) (v := .ref hpi) (C := R_M) (T := F_M) (N := 4) hx hb hw0 in_M hown hK hP 0 rfl rfl 2 (by decide) (hw0 (.fieldLink R_M 21 "TextKeeper$Maker" "piece" "[B") (List.mem_of_getElem? (i := 75) rfl)) (fun _ h9 => h9) rfl d_M_makeNext_75 ?_
      refine va_alen (v := nI np) hx hb hK hP 5 2 rfl rfl (rfl) d_M_makeNext_78 ?_
      refine lv_icmp_ge (tgt := 99) hx hb d_M_makeNext_79 (by decide) (fun c_2 => ?_) (fun c_2 => ?_)
      · obtain rfl : a = np := (by have h8 := (nI_leI (by omega) (by omega)).mp c_2; omega)
        exact kk cnt k f T F hf0 hf1 hf2 hf3 hf4 _ _ hP hD hS ls (lv_sub hl [0, 1, 2] rfl)
      · have hlt : a < np := (by rcases Nat.lt_or_ge a np with z | z; exact z; exact absurd (nI_le (by omega) (by omega)) c_2); obtain ⟨F1, rfl⟩ : ∃ z, F = z + 1 := ⟨F - 1, by omega⟩; have ha9 : a ≤ np := Nat.le_of_lt hlt
        refine lv_iload hx hb d_M_makeNext_82 (lv_at hl 1 rfl) ?_
        refine lv_if_eq (tgt := 99) hx hb d_M_makeNext_84 (by decide) (fun h9 => absurd h9 (by decide +kernel)) (fun _ => ?_)
        refine lv_aload_n hx hb d_M_makeNext_87 rfl (lv_at hl 2 rfl) ?_
        have hPc := hP.sub (ws' := [(h0, .inr (2, [.ref hba, .ref hta, .ref hpi, .int (nI a)])), (hta, .inr (1, [.ref hty, .int (nI k)])), (hty, .inl (cT, 256, .inl ((f)))), (hba, .inr (1, [.ref hby, .int (nI kb)])), (hby, .inl (cB, 256, .inl ((fb)))), (hpi, .inl (cP, np, .inl ((fp))))]) [0, 1, 2, 3, 4, 5] rfl
        have hKc := hK.sub (tys' := [(cT, .byte), (cB, .byte), (cP, .byte)]) [0, 1, 2] rfl
        have hDc := hD.sub (ws' := [(h0, .inr (2, [.ref hba, .ref hta, .ref hpi, .int (nI a)])), (hta, .inr (1, [.ref hty, .int (nI k)])), (hty, .inl (cT, 256, .inl ((f)))), (hba, .inr (1, [.ref hby, .int (nI kb)])), (hby, .inl (cB, 256, .inl ((fb)))), (hpi, .inl (cP, np, .inl ((fp))))]) [0, 1, 2, 3, 4, 5] (by decide) rfl
        have hFc := va_free (wc := [(h0, .inr (2, [.ref hba, .ref hta, .ref hpi, .int (nI a)])), (hta, .inr (1, [.ref hty, .int (nI k)])), (hty, .inl (cT, 256, .inl ((f)))), (hba, .inr (1, [.ref hby, .int (nI kb)])), (hby, .inl (cB, 256, .inl ((fb)))), (hpi, .inl (cP, np, .inl ((fp))))]) hD hS hA [0, 1, 2, 3, 4, 5] rfl
        refine va_calli (va_runV (As := []) (rest := []) ⟨hx, hb, hml, hown, hw0⟩ (g_obey l dC dI H.size h0 hba hta hpi hty cT k _ hby cB kb (fb) _ cP np (fp) _ a (f) (by first | assumption | decide | omega) (by first | assumption | decide | omega) (by first | assumption | decide | omega) (by first | assumption | decide | omega) (by first | assumption | decide | omega) (by first | assumption | decide | omega) (by first | assumption | decide | omega)) (cwV 0 hw0 (gd_V 212 213 214 87 215 rfl rfl rfl rfl rfl) rfl rfl rfl (by decide +kernel) ⟨by decide +kernel, by decide +kernel⟩) (prV_E hPc hKc hDc hN (va_recv hKc hPc (ci := 2) (q0 := 0) rfl rfl)) rfl rfl hl.1 rfl (lv_room (Nat.le_of_ble_eq_true rfl)) d_M_makeNext_88 ⟨by decide +kernel, by decide +kernel⟩) hS (fun q _ h => hFc q h) hFc (fun r_3 u t H1 locs ht hvm hw hB hz1 hk1 hS => ?_)
        obtain ⟨a2_4, k2_5, f2_6, T2_7, ⟨hu_8_0, hu_8_1⟩, hP1, hK1, hD1⟩ := hB
        rw [ht] at hP1
        have hK1 := va_K.moved hvm.symm hK1
        try dsimp only at hw
        obtain ⟨hP, hD⟩ := va_joinQ (wr := []) (w1 := [(h0, .inr (2, [.ref hba, .ref hta, .ref hpi, .int (nI a2_4)])), (hta, .inr (1, [.ref hty, .int (nI k2_5)])), (hty, .inl (cT, 256, .inl (f2_6))), (hba, .inr (1, [.ref hby, .int (nI kb)])), (hby, .inl (cB, 256, .inl ((fb)))), (hpi, .inl (cP, np, .inl ((fp))))]) hP hD [0, 1, 2, 3, 4, 5] [] rfl rfl (by decide) (by decide) hk1 hFc hP1 hD1
        generalize H1 = H at hP hS ⊢
        replace hP : va_P (dC, dI) vwCl (([(h0, .inr (2, [.ref hba, .ref hta, .ref hpi, .int (nI a2_4)])), (hta, .inr (1, [.ref hty, .int (nI k2_5)])), (hty, .inl (cT, 256, .inl (f2_6))), (hba, .inr (1, [.ref hby, .int (nI kb)])), (hby, .inl (cB, 256, .inl ((fb)))), (hpi, .inl (cP, np, .inl ((fp))))] : va_W) ++ pl) H := hP
        replace hD : va_D A (([(h0, .inr (2, [.ref hba, .ref hta, .ref hpi, .int (nI a2_4)])), (hta, .inr (1, [.ref hty, .int (nI k2_5)])), (hty, .inl (cT, 256, .inl (f2_6))), (hba, .inr (1, [.ref hby, .int (nI kb)])), (hby, .inl (cB, 256, .inl ((fb)))), (hpi, .inl (cP, np, .inl ((fp))))] : va_W) ++ pl) := hD
        replace hK : va_K (dC, dI) vwCl [(cT, .byte), (cB, .byte), (cP, .byte)] s := hK
        have hw_9 := hw
        rcases hq9 : cmd S Bs T a with _ | y
        · rw [hq9] at hw_9; obtain rfl : r_3 = 0 := hw_9
          refine lv_istore (lv' := [(5, .int 0), (6, .int (nI cnt)), (0, .ref h0)]) hx hb d_M_makeNext_91 hl (by decide) rfl (fun ls hl => ?_)
          refine lv_iinc (v := nI (cnt + 1)) (lv' := [(6, .int (nI (cnt + 1))), (5, .int 0), (0, .ref h0)]) hx hb d_M_makeNext_93 hl (k := 1) rfl (nI_1 cnt) (by decide) rfl (fun ls hl => ?_)
          refine lv_goto (tgt := 60) hx hb d_M_makeNext_96 (by decide) ?_
          refine lv_iload hx hb d_M_makeNext_60 (lv_at hl 0 rfl) ?_
          refine lv_aload_n hx hb d_M_makeNext_62 rfl (lv_at hl 2 rfl) ?_
          refine va_get (D := (dC, dI)) (ci := 2) (v := .ref hpi) (C := R_M) (T := F_M) (N := 4) hx hb hw0 in_M hown hK hP 0 rfl rfl 2 (by decide) (hw0 (.fieldLink R_M 21 "TextKeeper$Maker" "piece" "[B") (List.mem_of_getElem? (i := 75) rfl)) (fun _ h9 => h9) rfl d_M_makeNext_63 ?_
          refine va_alen (v := nI np) hx hb hK hP 5 2 rfl rfl (rfl) d_M_makeNext_66 ?_
          refine lv_icmp_ge (tgt := 99) hx hb d_M_makeNext_67 (by decide) (fun c_10 => ?_) (fun c_10 => ?_)
          · exact kk2 a2_4 k2_5 f2_6 T2_7 hu_8_0.1 hu_8_0.2.1 (by rw [← hf3, mkF_no (by rw [hs9.1]; exact hlt) hq9]) _ _ (hP.part (cx := [(h0, .inr (2, [.ref hba, .ref hta, .ref hpi, .int (nI a2_4)])), (hta, .inr (1, [.ref hty, .int (nI k2_5)])), (hty, .inl (cT, 256, .inl (f2_6))), (hba, .inr (1, [.ref hby, .int (nI kb)])), (hby, .inl (cB, 256, .inl (fb))), (hpi, .inl (cP, np, .inl (fp)))]) [0, 1, 2, 3, 4, 5] rfl) (hD.part (cx := [(h0, .inr (2, [.ref hba, .ref hta, .ref hpi, .int (nI a2_4)])), (hta, .inr (1, [.ref hty, .int (nI k2_5)])), (hty, .inl (cT, 256, .inl (f2_6))), (hba, .inr (1, [.ref hby, .int (nI kb)])), (hby, .inl (cB, 256, .inl (fb))), (hpi, .inl (cP, np, .inl (fp)))]) [0, 1, 2, 3, 4, 5] (by decide) rfl) hS ls (lv_sub hl [1, 2] rfl)
          · refine lv_aload_n hx hb d_M_makeNext_70 rfl (lv_at hl 2 rfl) ?_
            refine va_get (D := (dC, dI)) (ci := 2) (v := .int (nI a2_4)) (C := R_M) (T := F_M) (N := 4) hx hb hw0 in_M hown hK hP 0 rfl rfl 3 (by decide) (hw0 (.fieldLink R_M 25 "TextKeeper$Maker" "at" "I") (List.mem_of_getElem? (i := 76) rfl)) (fun _ h9 => h9) rfl d_M_makeNext_71 ?_
            refine lv_aload_n hx hb d_M_makeNext_74 rfl (lv_at hl 2 rfl) ?_
            refine va_get (D := (dC, dI)) (ci := 2) (v := .ref hpi) (C := R_M) (T := F_M) (N := 4) hx hb hw0 in_M hown hK hP 0 rfl rfl 2 (by decide) (hw0 (.fieldLink R_M 21 "TextKeeper$Maker" "piece" "[B") (List.mem_of_getElem? (i := 75) rfl)) (fun _ h9 => h9) rfl d_M_makeNext_75 ?_
            refine va_alen (v := nI np) hx hb hK hP 5 2 rfl rfl (rfl) d_M_makeNext_78 ?_
            refine lv_icmp_ge (tgt := 99) hx hb d_M_makeNext_79 (by decide) (fun c_11 => ?_) (fun c_11 => ?_)
            · exact kk2 a2_4 k2_5 f2_6 T2_7 hu_8_0.1 hu_8_0.2.1 (by rw [← hf3, mkF_no (by rw [hs9.1]; exact hlt) hq9]) _ _ (hP.part (cx := [(h0, .inr (2, [.ref hba, .ref hta, .ref hpi, .int (nI a2_4)])), (hta, .inr (1, [.ref hty, .int (nI k2_5)])), (hty, .inl (cT, 256, .inl (f2_6))), (hba, .inr (1, [.ref hby, .int (nI kb)])), (hby, .inl (cB, 256, .inl (fb))), (hpi, .inl (cP, np, .inl (fp)))]) [0, 1, 2, 3, 4, 5] rfl) (hD.part (cx := [(h0, .inr (2, [.ref hba, .ref hta, .ref hpi, .int (nI a2_4)])), (hta, .inr (1, [.ref hty, .int (nI k2_5)])), (hty, .inl (cT, 256, .inl (f2_6))), (hba, .inr (1, [.ref hby, .int (nI kb)])), (hby, .inl (cB, 256, .inl (fb))), (hpi, .inl (cP, np, .inl (fp)))]) [0, 1, 2, 3, 4, 5] (by decide) rfl) hS ls (lv_sub hl [1, 2] rfl)
            · have hz9 := hj
              refine lv_iload hx hb d_M_makeNext_82 (lv_at hl 1 rfl) ?_
              refine lv_if_eq (tgt := 99) hx hb d_M_makeNext_84 (by decide) (fun _ => ?_) (fun h9 => absurd h9 (by decide +kernel))
              exact kk2 a2_4 k2_5 f2_6 T2_7 hu_8_0.1 hu_8_0.2.1 (by rw [← hf3, mkF_no (by rw [hs9.1]; exact hlt) hq9]) _ _ (hP.part (cx := [(h0, .inr (2, [.ref hba, .ref hta, .ref hpi, .int (nI a2_4)])), (hta, .inr (1, [.ref hty, .int (nI k2_5)])), (hty, .inl (cT, 256, .inl (f2_6))), (hba, .inr (1, [.ref hby, .int (nI kb)])), (hby, .inl (cB, 256, .inl (fb))), (hpi, .inl (cP, np, .inl (fp)))]) [0, 1, 2, 3, 4, 5] rfl) (hD.part (cx := [(h0, .inr (2, [.ref hba, .ref hta, .ref hpi, .int (nI a2_4)])), (hta, .inr (1, [.ref hty, .int (nI k2_5)])), (hty, .inl (cT, 256, .inl (f2_6))), (hba, .inr (1, [.ref hby, .int (nI kb)])), (hby, .inl (cB, 256, .inl (fb))), (hpi, .inl (cP, np, .inl (fp)))]) [0, 1, 2, 3, 4, 5] (by decide) rfl) hS ls (lv_sub hl [1, 2] rfl)
        · rw [hq9] at hw_9; obtain rfl : r_3 = 1 := hw_9; have h7 := hu_8_1 y hq9; have h6 := cmd_lt (by rw [hs9.1]; exact Nat.le_of_lt hlt) hq9
          refine lv_istore (lv' := [(5, .int 1), (6, .int (nI cnt)), (0, .ref h0)]) hx hb d_M_makeNext_91 hl (by decide) rfl (fun ls hl => ?_)
          refine lv_iinc (v := nI (cnt + 1)) (lv' := [(6, .int (nI (cnt + 1))), (5, .int 1), (0, .ref h0)]) hx hb d_M_makeNext_93 hl (k := 1) rfl (nI_1 cnt) (by decide) rfl (fun ls hl => ?_)
          refine lv_goto (tgt := 60) hx hb d_M_makeNext_96 (by decide) ?_
          exact ih a2_4 hu_8_0.2.2 (by omega) (cnt + 1) k2_5 f2_6 T2_7 F1 (by omega) hu_8_0.1 hu_8_0.2.1 (by rw [← hf3, mkF_yes (by rw [hs9.1]; exact hlt) hq9, h7.1, h7.2]) (by omega) _ _ (hP.part (cx := [(h0, .inr (2, [.ref hba, .ref hta, .ref hpi, .int (nI a2_4)])), (hta, .inr (1, [.ref hty, .int (nI k2_5)])), (hty, .inl (cT, 256, .inl (f2_6))), (hba, .inr (1, [.ref hby, .int (nI kb)])), (hby, .inl (cB, 256, .inl (fb))), (hpi, .inl (cP, np, .inl (fp)))]) [0, 1, 2, 3, 4, 5] rfl) (hD.part (cx := [(h0, .inr (2, [.ref hba, .ref hta, .ref hpi, .int (nI a2_4)])), (hta, .inr (1, [.ref hty, .int (nI k2_5)])), (hty, .inl (cT, 256, .inl (f2_6))), (hba, .inr (1, [.ref hby, .int (nI kb)])), (hby, .inl (cB, 256, .inl (fb))), (hpi, .inl (cP, np, .inl (fp)))]) [0, 1, 2, 3, 4, 5] (by decide) rfl) hS ls (lv_sub hl [0, 1, 2] rfl)
