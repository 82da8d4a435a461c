section
set_option maxHeartbeats 4000000 in
set_option maxRecDepth 100000 in
theorem lo_beg {p : Program} {l : Launch} {e : Env} {s : State} {m : MethodId} {args : Array Value} {below : List Frame} {meth : Method} {c : Code} {dC : Nat → ClassId} {dI : Nat → Nat → Nat} {Q : State → Prop} {H : Heap} {locs : List Loc} (h0 : Nat) (i_thrown : Int32) (i_down : Int32) (i_lasts : Int32) (v_buffer : Value) (i_size : Int32) (i_documents : Int32) (v_gone : Value) (v_first : Value) (v_many : Value) (v_authors : Value) (v_sums : Value) (v_row : Value) (v_made : Value) (i_madeSize : Int32) (v_base : Value) (i_baseSize : Int32) (v_text : Value) (i_textSize : Int32) (i_textSteps : Int32) (v_other : Value) (i_otherSize : Int32) (v_piece : Value) (i_pieceSize : Int32) (i_at : Int32) (i_end : Int32) (i_value : Int32) (hln : Nat) (cL : ClassId) (fl : Nat → Int32) (ln : Nat → Option Nat) (x : Nat) (hfl : ∀ j, j < 512 → fl j = vI (ln j)) (hbd : ∀ j v, j < 512 → ln j = some v → v ≤ 16384) (hx9 : x ≤ 512)
    (hx : p.tables.exec = Jvm.exec) (hb : c.code = prog_9_method_10_code) (hml : c.maxLocals = 4) (hown : s.vm.findClass R_O = some m.cls) (hw0 : ∀ w ∈ w0, w.before args s = true) (hN : nw_ok s) (hK : va_K (dC, dI) vwCl [(cL, .short)] s) (hP : va_P (dC, dI) vwCl [(h0, .inr (7, [.int i_thrown, .int i_down, .int i_lasts, v_buffer, .int i_size, .int i_documents, v_gone, v_first, v_many, .ref hln, v_authors, v_sums, v_row, v_made, .int i_madeSize, v_base, .int i_baseSize, v_text, .int i_textSize, .int i_textSteps, v_other, .int i_otherSize, v_piece, .int i_pieceSize, .int i_at, .int i_end, .int i_value])), (hln, .inl (cL, 512, .inl (fl)))] H)
    (kk : ∀ ls : Array Slot, lv_has ls 4 [(3, .int (nI x)), (2, .int (nI (bgs ln x))), (0, .ref h0), (1, .int (nI x))] → W p l e ({ frames := 0, cells := 0, slots := 0, locals := 0 } : Room) s m args below meth c H locs 0 0 Q (F0 m 37 ls [])) :
    ∀ (n j : Nat), j ≤ x → x < j + n → ∀ ls : Array Slot, lv_has ls 4 [(3, .int (nI j)), (2, .int (nI (bgs ln j))), (0, .ref h0), (1, .int (nI x))] → W p l e ({ frames := 0, cells := 0, slots := 0, locals := 0 } : Room) s m args below meth c H locs 0 0 Q (F0 m 4 ls []) := by
  intro n
  induction n with
  | zero => intro j  h1 h2; exact absurd h2 (by omega)
  | succ n ih =>
    intro j  hj hn  ls hl
    refine lv_iload_n hx hb d_O_begins_4 rfl (lv_at hl 0 rfl) ?_
    refine lv_iload_n hx hb d_O_begins_5 rfl (lv_at hl 3 rfl) ?_
    refine lv_icmp_ge (tgt := 37) hx hb d_O_begins_6 (by decide) (fun c_1 => ?_) (fun c_1 => ?_)
    · obtain rfl : j = x := x_geN (by omega) hj c_1
      exact kk ls (lv_sub hl [0, 1, 2, 3] rfl)
    · have hlt : j < x := x_ltN (by omega) hj c_1
      refine lv_iload_n hx hb d_O_begins_9 rfl (lv_at hl 1 rfl) ?_
      refine lv_aload_n hx hb d_O_begins_10 rfl (lv_at hl 2 rfl) ?_
      refine va_get (D := (dC, dI)) (ci := 7) (v := .ref hln) (C := R_O) (T := F_O) (N := 27) hx hb hw0 in_O hown hK hP 0 rfl rfl 9 (by decide) (hw0 (.fieldLink R_O 28 "TextKeeperModel" "lengths" "[S") wm_289) (fun _ h9 => h9) rfl d_O_begins_11 ?_
      refine lv_iload_n hx hb d_O_begins_14 rfl (lv_at hl 0 rfl) ?_
      refine va_sald hx hb hK hP 1 0 rfl rfl (vp_in_nI (by omega) (by decide)) d_O_begins_15 ?_
      refine lv_topi (fun x_2 ex_2 => ?_)
      refine lv_if_le (tgt := 28) hx hb d_O_begins_16 (by decide) (fun c_3 => ?_) (fun c_3 => ?_)
      · refine lv_iconst (v := 0) hx hb d_O_begins_28 (by decide) ?_
        refine lv_iadd hx hb d_O_begins_29 ?_
        refine lv_topi (fun x_4 ex_4 => ?_)
        obtain rfl : x_4 = (nI (bgs ln (j + 1))) := by rw [ex_4]; exact y_bg0 (by omega) (hfl j (by omega)) (fun v => hbd j v (by omega)) ex_2 c_3
        clear ex_4
        refine lv_istore_n (lv' := [(2, .int (nI (bgs ln (j + 1)))), (3, .int (nI j)), (0, .ref h0), (1, .int (nI x))]) hx hb d_O_begins_30 rfl hl (by decide) rfl (fun ls hl => ?_)
        refine lv_iinc (v := nI (j + 1)) (lv' := [(3, .int (nI (j + 1))), (2, .int (nI (bgs ln (j + 1)))), (0, .ref h0), (1, .int (nI x))]) hx hb d_O_begins_31 hl (k := 1) rfl (nI_1 j) (by decide) rfl (fun ls hl => ?_)
        refine lv_goto (tgt := 4) hx hb d_O_begins_34 (by decide) ?_
        exact ih (j + 1) hlt (by omega) ls (lv_sub hl [0, 1, 2, 3] rfl)
      · refine lv_aload_n hx hb d_O_begins_19 rfl (lv_at hl 2 rfl) ?_
        refine va_get (D := (dC, dI)) (ci := 7) (v := .ref hln) (C := R_O) (T := F_O) (N := 27) hx hb hw0 in_O hown hK hP 0 rfl rfl 9 (by decide) (hw0 (.fieldLink R_O 28 "TextKeeperModel" "lengths" "[S") wm_289) (fun _ h9 => h9) rfl d_O_begins_20 ?_
        refine lv_iload_n hx hb d_O_begins_23 rfl (lv_at hl 0 rfl) ?_
        refine va_sald hx hb hK hP 1 0 rfl rfl (vp_in_nI (by omega) (by decide)) d_O_begins_24 ?_
        refine lv_topi (fun x_5 ex_5 => ?_)
        refine lv_goto (tgt := 29) hx hb d_O_begins_25 (by decide) ?_
        refine lv_iadd hx hb d_O_begins_29 ?_
        refine lv_topi (fun x_6 ex_6 => ?_)
        obtain rfl : x_6 = (nI (bgs ln (j + 1))) := by rw [ex_6, ex_5]; exact y_bg1 (by omega) (hfl j (by omega)) ex_2 c_3
        clear ex_6
        refine lv_istore_n (lv' := [(2, .int (nI (bgs ln (j + 1)))), (3, .int (nI j)), (0, .ref h0), (1, .int (nI x))]) hx hb d_O_begins_30 rfl hl (by decide) rfl (fun ls hl => ?_)
        refine lv_iinc (v := nI (j + 1)) (lv' := [(3, .int (nI (j + 1))), (2, .int (nI (bgs ln (j + 1)))), (0, .ref h0), (1, .int (nI x))]) hx hb d_O_begins_31 hl (k := 1) rfl (nI_1 j) (by decide) rfl (fun ls hl => ?_)
        refine lv_goto (tgt := 4) hx hb d_O_begins_34 (by decide) ?_
        exact ih (j + 1) hlt (by omega) ls (lv_sub hl [0, 1, 2, 3] rfl)
set_option maxHeartbeats 4000000 in
set_option maxRecDepth 100000 in
theorem o_begins (l : Launch) (dC : Nat → ClassId) (dI : Nat → Nat → Nat) (h0 : Nat) (i_thrown : Int32) (i_down : Int32) (i_lasts : Int32) (v_buffer : Value) (i_size : Int32) (i_documents : Int32) (v_gone : Value) (v_first : Value) (v_many : Value) (v_authors : Value) (v_sums : Value) (v_row : Value) (v_made : Value) (i_madeSize : Int32) (v_base : Value) (i_baseSize : Int32) (v_text : Value) (i_textSize : Int32) (i_textSteps : Int32) (v_other : Value) (i_otherSize : Int32) (v_piece : Value) (i_pieceSize : Int32) (i_at : Int32) (i_end : Int32) (i_value : Int32) (hln : Nat) (cL : ClassId) (fl : Nat → Int32) (ln : Nat → Option Nat) (x : Nat) (hfl : ∀ j, j < 512 → fl j = vI (ln j)) (hbd : ∀ j v, j < 512 → ln j = some v → v ≤ 16384) (hx9 : x ≤ 512) : Met l y_O_begins k_O_begins ({ frames := 0, cells := 0, slots := 0, locals := 0 } : Room) (va_Pc [.ref h0, .int (nI x)] (pc_R (dC, dI) [(h0, .inr (7, [.int i_thrown, .int i_down, .int i_lasts, v_buffer, .int i_size, .int i_documents, v_gone, v_first, v_many, .ref hln, v_authors, v_sums, v_row, v_made, .int i_madeSize, v_base, .int i_baseSize, v_text, .int i_textSize, .int i_textSteps, v_other, .int i_otherSize, v_piece, .int i_pieceSize, .int i_at, .int i_end, .int i_value])), (hln, .inl (cL, 512, .inl (fl)))] [(cL, .short)])) (vp_Si (fun r => r = nI (bgs ln x))) 0 0 (fun _ => False) := by
  refine Met.ofW (cc := prog_9_method_10_code) (maxL := 4) (ret := (some .int)) (by decide) rfl ?_
  intro p e s m args below meth c s₁ B hml hv
  obtain ⟨rfl, hP, hK, hN⟩ := hv
  have hx := B.exec
  have hb := B.bytes
  have hr := B.returns
  have hts := atoms_spec (ws := k_O_begins) B.pre
  have hw0 : ∀ w ∈ w0, w.before _ s = true := fun w h => hts w (List.mem_cons_of_mem _ h)
  have hown : s.vm.findClass R_O = some m.cls := findClass_of_methodNamed B.named
  have hlocks := B.notSynchronized
  have hP : va_P (dC, dI) vwCl [(h0, .inr (7, [.int i_thrown, .int i_down, .int i_lasts, v_buffer, .int i_size, .int i_documents, v_gone, v_first, v_many, .ref hln, v_authors, v_sums, v_row, v_made, .int i_madeSize, v_base, .int i_baseSize, v_text, .int i_textSize, .int i_textSteps, v_other, .int i_otherSize, v_piece, .int i_pieceSize, .int i_at, .int i_end, .int i_value])), (hln, .inl (cL, 512, .inl (fl)))] s.heap := hP
  have hl := lv_entry ([.ref h0, .int (nI x)]) (n := 4) (Nat.le_of_ble_eq_true rfl)
  rw [lg_entry_eq]
  generalize (lg_sl ([.ref h0, .int (nI x)]) ++ List.replicate (4 - (lg_sl ([.ref h0, .int (nI x)])).length) Slot.unset).toArray = ls at hl ⊢
  have hl : lv_has ls 4 [(0, .ref h0), (1, .int (nI x))] := hl
  refine lv_iconst (v := 0) hx hb d_O_begins_0 (by decide) ?_
  refine lv_istore_n (lv' := [(2, .int 0), (0, .ref h0), (1, .int (nI x))]) hx hb d_O_begins_1 rfl hl (by decide) rfl (fun ls hl => ?_)
  refine lv_iconst (v := 0) hx hb d_O_begins_2 (by decide) ?_
  refine lv_istore_n (lv' := [(3, .int 0), (2, .int 0), (0, .ref h0), (1, .int (nI x))]) hx hb d_O_begins_3 rfl hl (by decide) rfl (fun ls hl => ?_)
  refine lo_beg h0 i_thrown i_down i_lasts v_buffer i_size i_documents v_gone v_first v_many v_authors v_sums v_row v_made i_madeSize v_base i_baseSize v_text i_textSize i_textSteps v_other i_otherSize v_piece i_pieceSize i_at i_end i_value hln cL fl ln x hfl hbd hx9 hx hb hml hown hw0 hN hK hP (fun ls hl => ?_) (x + 1) 0 (by omega) (by omega) ls (lv_sub hl [0, 1, 2, 3] rfl)
  refine lv_iload_n hx hb d_O_begins_37 rfl (lv_at hl 1 rfl) ?_
  exact W.iret (v := (nI (bgs ln x))) hx hb hr (fun t ht hW => ⟨(nI (bgs ln x)), rfl, rfl, ht⟩) (fun q h => by cases h) d_O_begins_38
set_option maxHeartbeats 4000000 in
set_option maxRecDepth 100000 in
theorem lo_sum {p : Program} {l : Launch} {e : Env} {s : State} {m : MethodId} {args : Array Value} {below : List Frame} {meth : Method} {c : Code} {dC : Nat → ClassId} {dI : Nat → Nat → Nat} {Q : State → Prop} {H : Heap} {locs : List Loc} (h0 : Nat) (i_thrown : Int32) (i_down : Int32) (i_lasts : Int32) (v_buffer : Value) (i_size : Int32) (i_documents : Int32) (v_gone : Value) (v_first : Value) (v_many : Value) (v_lengths : Value) (v_authors : Value) (v_sums : Value) (v_row : Value) (v_made : Value) (i_madeSize : Int32) (v_base : Value) (i_baseSize : Int32) (v_text : Value) (i_textSize : Int32) (i_textSteps : Int32) (v_other : Value) (i_otherSize : Int32) (v_piece : Value) (i_pieceSize : Int32) (i_at : Int32) (i_end : Int32) (i_value : Int32) (hs : Nat) (cB : ClassId) (k : Nat) (f : Nat → Int32) (L : List Int32) (htx : tx L k f) (hk : k ≤ 256)
    (hx : p.tables.exec = Jvm.exec) (hb : c.code = prog_9_method_26_code) (hml : c.maxLocals = 5) (hown : s.vm.findClass R_O = some m.cls) (hw0 : ∀ w ∈ w0, w.before args s = true) (hN : nw_ok s) (hK : va_K (dC, dI) vwCl [(cB, .byte)] s) (hP : va_P (dC, dI) vwCl [(h0, .inr (7, [.int i_thrown, .int i_down, .int i_lasts, v_buffer, .int i_size, .int i_documents, v_gone, v_first, v_many, v_lengths, v_authors, v_sums, v_row, v_made, .int i_madeSize, v_base, .int i_baseSize, v_text, .int i_textSize, .int i_textSteps, v_other, .int i_otherSize, v_piece, .int i_pieceSize, .int i_at, .int i_end, .int i_value])), (hs, .inl (cB, 256, .inl (f)))] H)
    (kk : ∀ ls : Array Slot, lv_has ls 5 [(4, .int (nI k)), (3, .int (sumL (L.take k))), (0, .ref h0), (1, .ref hs), (2, .int (nI k))] → W p l e ({ frames := 0, cells := 0, slots := 0, locals := 0 } : Room) s m args below meth c H locs 0 0 Q (F0 m 33 ls [])) :
    ∀ (n j : Nat), j ≤ k → k < j + n → ∀ ls : Array Slot, lv_has ls 5 [(4, .int (nI j)), (3, .int (sumL (L.take j))), (0, .ref h0), (1, .ref hs), (2, .int (nI k))] → W p l e ({ frames := 0, cells := 0, slots := 0, locals := 0 } : Room) s m args below meth c H locs 0 0 Q (F0 m 5 ls []) := by
  intro n
  induction n with
  | zero => intro j  h1 h2; exact absurd h2 (by omega)
  | succ n ih =>
    intro j  hj hn  ls hl
    refine lv_iload hx hb d_O_sum_5 (lv_at hl 0 rfl) ?_
    refine lv_iload_n hx hb d_O_sum_7 rfl (lv_at hl 4 rfl) ?_
    refine lv_icmp_ge (tgt := 33) hx hb d_O_sum_8 (by decide) (fun c_1 => ?_) (fun c_1 => ?_)
    · obtain rfl : j = k := x_geN (by omega) hj c_1
      exact kk ls (lv_sub hl [0, 1, 2, 3, 4] rfl)
    · have hlt : j < k := x_ltN (by omega) hj c_1
      refine lv_iload_n hx hb d_O_sum_11 rfl (lv_at hl 1 rfl) ?_
      refine lv_bipush (v := 31) hx hb d_O_sum_12 (by decide +kernel) ?_
      refine lv_imul hx hb d_O_sum_14 ?_
      refine lv_topi (fun x_2 ex_2 => ?_)
      refine lv_aload_n hx hb d_O_sum_15 rfl (lv_at hl 3 rfl) ?_
      refine lv_iload hx hb d_O_sum_16 (lv_at hl 0 rfl) ?_
      refine va_bald hx hb hK hP 1 0 rfl rfl (vp_in_nI (by omega) (by decide)) d_O_sum_18 ?_
      refine lv_topi (fun x_3 ex_3 => ?_)
      refine lv_sipush (v := 255) hx hb d_O_sum_19 (by decide +kernel) ?_
      refine lv_iand hx hb d_O_sum_22 ?_
      refine lv_topi (fun x_4 ex_4 => ?_)
      refine lv_iadd hx hb d_O_sum_23 ?_
      refine lv_topi (fun x_5 ex_5 => ?_)
      refine lv_iconst (v := 1) hx hb d_O_sum_24 (by decide) ?_
      refine lv_iadd hx hb d_O_sum_25 ?_
      refine lv_topi (fun x_6 ex_6 => ?_)
      obtain rfl : x_6 = (sumL (L.take (j + 1))) := by rw [ex_6, ex_5, ex_2, ex_4, ex_3]; rw [sumL_take (by rw [htx.1]; exact hlt), nI_clamp (by omega), tx_at htx hlt]
      clear ex_6
      refine lv_istore_n (lv' := [(3, .int (sumL (L.take (j + 1)))), (4, .int (nI j)), (0, .ref h0), (1, .ref hs), (2, .int (nI k))]) hx hb d_O_sum_26 rfl hl (by decide) rfl (fun ls hl => ?_)
      refine lv_iinc (v := nI (j + 1)) (lv' := [(4, .int (nI (j + 1))), (3, .int (sumL (L.take (j + 1)))), (0, .ref h0), (1, .ref hs), (2, .int (nI k))]) hx hb d_O_sum_27 hl (k := 1) rfl (nI_1 j) (by decide) rfl (fun ls hl => ?_)
      refine lv_goto (tgt := 5) hx hb d_O_sum_30 (by decide) ?_
      exact ih (j + 1) hlt (by omega) ls (lv_sub hl [0, 1, 2, 3, 4] rfl)
set_option maxHeartbeats 4000000 in
set_option maxRecDepth 100000 in
theorem o_sum (l : Launch) (dC : Nat → ClassId) (dI : Nat → Nat → Nat) (h0 : Nat) (i_thrown : Int32) (i_down : Int32) (i_lasts : Int32) (v_buffer : Value) (i_size : Int32) (i_documents : Int32) (v_gone : Value) (v_first : Value) (v_many : Value) (v_lengths : Value) (v_authors : Value) (v_sums : Value) (v_row : Value) (v_made : Value) (i_madeSize : Int32) (v_base : Value) (i_baseSize : Int32) (v_text : Value) (i_textSize : Int32) (i_textSteps : Int32) (v_other : Value) (i_otherSize : Int32) (v_piece : Value) (i_pieceSize : Int32) (i_at : Int32) (i_end : Int32) (i_value : Int32) (hs : Nat) (cB : ClassId) (k : Nat) (f : Nat → Int32) (L : List Int32) (htx : tx L k f) (hk : k ≤ 256) : Met l y_O_sum k_O_sum ({ frames := 0, cells := 0, slots := 0, locals := 0 } : Room) (va_Pc [.ref h0, .ref hs, .int (nI k)] (pc_R (dC, dI) [(h0, .inr (7, [.int i_thrown, .int i_down, .int i_lasts, v_buffer, .int i_size, .int i_documents, v_gone, v_first, v_many, v_lengths, v_authors, v_sums, v_row, v_made, .int i_madeSize, v_base, .int i_baseSize, v_text, .int i_textSize, .int i_textSteps, v_other, .int i_otherSize, v_piece, .int i_pieceSize, .int i_at, .int i_end, .int i_value])), (hs, .inl (cB, 256, .inl (f)))] [(cB, .byte)])) (vp_Si (fun r => r = sumL L)) 0 0 (fun _ => False) := by
  refine Met.ofW (cc := prog_9_method_26_code) (maxL := 5) (ret := (some .int)) (by decide) rfl ?_
  intro p e s m args below meth c s₁ B hml hv
  obtain ⟨rfl, hP, hK, hN⟩ := hv
  have hx := B.exec
  have hb := B.bytes
  have hr := B.returns
  have hts := atoms_spec (ws := k_O_sum) B.pre
  have hw0 : ∀ w ∈ w0, w.before _ s = true := fun w h => hts w (List.mem_cons_of_mem _ h)
  have hown : s.vm.findClass R_O = some m.cls := findClass_of_methodNamed B.named
  have hlocks := B.notSynchronized
  have hP : va_P (dC, dI) vwCl [(h0, .inr (7, [.int i_thrown, .int i_down, .int i_lasts, v_buffer, .int i_size, .int i_documents, v_gone, v_first, v_many, v_lengths, v_authors, v_sums, v_row, v_made, .int i_madeSize, v_base, .int i_baseSize, v_text, .int i_textSize, .int i_textSteps, v_other, .int i_otherSize, v_piece, .int i_pieceSize, .int i_at, .int i_end, .int i_value])), (hs, .inl (cB, 256, .inl (f)))] s.heap := hP
  have hl := lv_entry ([.ref h0, .ref hs, .int (nI k)]) (n := 5) (Nat.le_of_ble_eq_true rfl)
  rw [lg_entry_eq]
  generalize (lg_sl ([.ref h0, .ref hs, .int (nI k)]) ++ List.replicate (5 - (lg_sl ([.ref h0, .ref hs, .int (nI k)])).length) Slot.unset).toArray = ls at hl ⊢
  have hl : lv_has ls 5 [(0, .ref h0), (1, .ref hs), (2, .int (nI k))] := hl
  refine lv_iconst (v := 0) hx hb d_O_sum_0 (by decide) ?_
  refine lv_istore_n (lv' := [(3, .int 0), (0, .ref h0), (1, .ref hs), (2, .int (nI k))]) hx hb d_O_sum_1 rfl hl (by decide) rfl (fun ls hl => ?_)
  refine lv_iconst (v := 0) hx hb d_O_sum_2 (by decide) ?_
  refine lv_istore (lv' := [(4, .int 0), (3, .int 0), (0, .ref h0), (1, .ref hs), (2, .int (nI k))]) hx hb d_O_sum_3 hl (by decide) rfl (fun ls hl => ?_)
  refine lo_sum h0 i_thrown i_down i_lasts v_buffer i_size i_documents v_gone v_first v_many v_lengths v_authors v_sums v_row v_made i_madeSize v_base i_baseSize v_text i_textSize i_textSteps v_other i_otherSize v_piece i_pieceSize i_at i_end i_value hs cB k f L htx hk hx hb hml hown hw0 hN hK hP (fun ls hl => ?_) (k + 1) 0 (by omega) (by omega) ls (lv_sub hl [0, 1, 2, 3, 4] rfl)
  refine lv_iload_n hx hb d_O_sum_33 rfl (lv_at hl 1 rfl) ?_
  exact W.iret (v := (sumL (L.take k))) hx hb hr (fun t ht hW => ⟨(sumL (L.take k)), rfl, (by rw [← htx.1, List.take_length]), ht⟩) (fun q h => by cases h) d_O_sum_34
set_option maxHeartbeats 4000000 in
set_option maxRecDepth 100000 in
theorem lo_mak {p : Program} {l : Launch} {e : Env} {s : State} {m : MethodId} {args : Array Value} {below : List Frame} {meth : Method} {c : Code} {dC : Nat → ClassId} {dI : Nat → Nat → Nat} {A : Nat → Prop} {Q : State → Prop} (h0 : Nat) (i_thrown : Int32) (i_down : Int32) (i_lasts : Int32) (v_buffer : Value) (i_size : Int32) (i_documents : Int32) (v_gone : Value) (v_first : Value) (v_many : Value) (v_lengths : Value) (v_authors : Value) (v_sums : Value) (v_text : Value) (i_textSize : Int32) (i_textSteps : Int32) (v_other : Value) (i_otherSize : Int32) (v_piece : Value) (i_pieceSize : Int32) (hmade : Nat) (cM : ClassId) (hbase : Nat) (cB : ClassId) (kb : Nat) (fb : Nat → Int32) (Bs : List Int32) (hrow : Nat) (cW : ClassId) (fr : Nat → Int32) (S : List Int32) (en : Nat) (b0 : Nat) (RR : Option (List Int32)) (pl : va_W) (htb : tx Bs kb fb) (hsx : sx S b0 fr) (hkb : kb ≤ 256) (hen : en = b0 + S.length)
    (hx : p.tables.exec = Jvm.exec) (hb : c.code = prog_9_method_19_code) (hml : c.maxLocals = 3) (hown : s.vm.findClass R_O = some m.cls) (hw0 : ∀ w ∈ w0, w.before args s = true) (hN : nw_ok s) (hK : va_K (dC, dI) vwCl [(cM, .byte), (cB, .byte), (cW, .byte)] s) (hA : ∀ q : Nat, s.heap.size ≤ q → A q)
    (kk : ∀ (ab : Nat) (k : Nat) (f : Nat → Int32) (T : List Int32) (vv : Int32) (F : Nat), (ab = b0 + S.length) → (tx T k f) → (k ≤ 256) → (mkF S Bs F T S.length = RR) → (S.length ≤ S.length + F) → ∀ (H : Heap) (locs : List Loc), va_P (dC, dI) vwCl (([(h0, .inr (7, [.int i_thrown, .int i_down, .int i_lasts, v_buffer, .int i_size, .int i_documents, v_gone, v_first, v_many, v_lengths, v_authors, v_sums, .ref hrow, .ref hmade, .int (nI k), .ref hbase, .int (nI kb), v_text, .int i_textSize, .int i_textSteps, v_other, .int i_otherSize, v_piece, .int i_pieceSize, .int (nI ab), .int (nI en), .int vv])), (hmade, .inl (cM, 256, .inl (f))), (hbase, .inl (cB, 256, .inl (fb))), (hrow, .inl (cW, 16384, .inl (fr)))] : va_W) ++ pl) H → va_D A (([(h0, .inr (7, [.int i_thrown, .int i_down, .int i_lasts, v_buffer, .int i_size, .int i_documents, v_gone, v_first, v_many, v_lengths, v_authors, v_sums, .ref hrow, .ref hmade, .int (nI k), .ref hbase, .int (nI kb), v_text, .int i_textSize, .int i_textSteps, v_other, .int i_otherSize, v_piece, .int i_pieceSize, .int (nI ab), .int (nI en), .int vv])), (hmade, .inl (cM, 256, .inl (f))), (hbase, .inl (cB, 256, .inl (fb))), (hrow, .inl (cW, 16384, .inl (fr)))] : va_W) ++ pl) → va_S A s.heap H locs → ∀ ls : Array Slot, lv_has ls 3 [(0, .ref h0)] → W p l e ({ frames := 2, cells := 0, slots := 0, locals := 46 } : Room) s m args below meth c H locs 0 0 Q (F0 m 87 ls []))
    (kk2 : ∀ (ab : Nat) (k : Nat) (f : Nat → Int32) (T : List Int32) (vv : Int32), (tx T k f) → (k ≤ 256) → (RR = none) → ∀ (H : Heap) (locs : List Loc), va_P (dC, dI) vwCl (([(h0, .inr (7, [.int i_thrown, .int i_down, .int i_lasts, v_buffer, .int i_size, .int i_documents, v_gone, v_first, v_many, v_lengths, v_authors, v_sums, .ref hrow, .ref hmade, .int (nI k), .ref hbase, .int (nI kb), v_text, .int i_textSize, .int i_textSteps, v_other, .int i_otherSize, v_piece, .int i_pieceSize, .int (nI ab), .int (nI en), .int vv])), (hmade, .inl (cM, 256, .inl (f))), (hbase, .inl (cB, 256, .inl (fb))), (hrow, .inl (cW, 16384, .inl (fr)))] : va_W) ++ pl) H → va_D A (([(h0, .inr (7, [.int i_thrown, .int i_down, .int i_lasts, v_buffer, .int i_size, .int i_documents, v_gone, v_first, v_many, v_lengths, v_authors, v_sums, .ref hrow, .ref hmade, .int (nI k), .ref hbase, .int (nI kb), v_text, .int i_textSize, .int i_textSteps, v_other, .int i_otherSize, v_piece, .int i_pieceSize, .int (nI ab), .int (nI en), .int vv])), (hmade, .inl (cM, 256, .inl (f))), (hbase, .inl (cB, 256, .inl (fb))), (hrow, .inl (cW, 16384, .inl (fr)))] : va_W) ++ pl) → va_S A s.heap H locs → ∀ ls : Array Slot, lv_has ls 3 [(0, .ref h0)] → W p l e ({ frames := 2, cells := 0, slots := 0, locals := 46 } : Room) s m args below meth c H locs 0 0 Q (F0 m 85 ls [])) :
    ∀ (n a : Nat), a ≤ S.length → S.length < a + n → ∀ (ab : Nat) (k : Nat) (f : Nat → Int32) (T : List Int32) (vv : Int32) (F : Nat), (ab = b0 + a) → (tx T k f) → (k ≤ 256) → (mkF S Bs F T a = RR) → (S.length ≤ a + F) → ∀ (H : Heap) (locs : List Loc), va_P (dC, dI) vwCl (([(h0, .inr (7, [.int i_thrown, .int i_down, .int i_lasts, v_buffer, .int i_size, .int i_documents, v_gone, v_first, v_many, v_lengths, v_authors, v_sums, .ref hrow, .ref hmade, .int (nI k), .ref hbase, .int (nI kb), v_text, .int i_textSize, .int i_textSteps, v_other, .int i_otherSize, v_piece, .int i_pieceSize, .int (nI ab), .int (nI en), .int vv])), (hmade, .inl (cM, 256, .inl (f))), (hbase, .inl (cB, 256, .inl (fb))), (hrow, .inl (cW, 16384, .inl (fr)))] : va_W) ++ pl) H → va_D A (([(h0, .inr (7, [.int i_thrown, .int i_down, .int i_lasts, v_buffer, .int i_size, .int i_documents, v_gone, v_first, v_many, v_lengths, v_authors, v_sums, .ref hrow, .ref hmade, .int (nI k), .ref hbase, .int (nI kb), v_text, .int i_textSize, .int i_textSteps, v_other, .int i_otherSize, v_piece, .int i_pieceSize, .int (nI ab), .int (nI en), .int vv])), (hmade, .inl (cM, 256, .inl (f))), (hbase, .inl (cB, 256, .inl (fb))), (hrow, .inl (cW, 16384, .inl (fr)))] : va_W) ++ pl) → va_S A s.heap H locs → ∀ ls : Array Slot, lv_has ls 3 [(0, .ref h0)] → W p l e ({ frames := 2, cells := 0, slots := 0, locals := 46 } : Room) s m args below meth c H locs 0 0 Q (F0 m 67 ls []) := by
  intro n
  induction n with
  | zero => intro a h1 h2; exact absurd h2 (by omega)
  | succ n ih =>
    intro a hj hn ab k f T vv F hf0 hf1 hf2 hf3 hf4 H locs hP hD hS ls hl
    refine lv_aload_n hx hb d_O_makes_67 rfl (lv_at hl 0 rfl) ?_
    refine va_get (D := (dC, dI)) (ci := 7) (v := .int (nI ab)) (C := R_O) (T := F_O) (N := 27) hx hb hw0 in_O hown hK hP 0 rfl rfl 24 (by decide) (hw0 (.fieldLink R_O 103 "TextKeeperModel" "at" "I") wm_262) (fun _ h9 => h9) rfl d_O_makes_68 ?_
    refine lv_aload_n hx hb d_O_makes_71 rfl (lv_at hl 0 rfl) ?_
    refine va_get (D := (dC, dI)) (ci := 7) (v := .int (nI en)) (C := R_O) (T := F_O) (N := 27) hx hb hw0 in_O hown hK hP 0 rfl rfl 25 (by decide) (hw0 (.fieldLink R_O 106 "TextKeeperModel" "end" "I") wm_263) (fun _ h9 => h9) rfl d_O_makes_72 ?_
    refine lv_icmp_ge (tgt := 87) hx hb d_O_makes_75 (by decide) (fun c_1 => ?_) (fun c_1 => ?_)
    · have hl9 := hsx.2.2
      obtain rfl : a = S.length := (by have h8 := (nI_leI (by omega) (by omega)).mp c_1; omega)
      exact kk ab k f T vv F hf0 hf1 hf2 hf3 hf4 _ _ hP hD hS ls (lv_sub hl [0] rfl)
    · have hl9 := hsx.2.2; have hlt : a < S.length := (by rcases Nat.lt_or_ge a S.length with z | z; exact z; exact absurd (nI_le (by omega) (by omega)) c_1); obtain ⟨F1, rfl⟩ : ∃ z, F = z + 1 := ⟨F - 1, by omega⟩; have ha9 : a ≤ S.length := Nat.le_of_lt hlt
      refine lv_aload_n hx hb d_O_makes_78 rfl (lv_at hl 0 rfl) ?_
      have hPc := hP.sub (ws' := [(h0, .inr (7, [.int i_thrown, .int i_down, .int i_lasts, v_buffer, .int i_size, .int i_documents, v_gone, v_first, v_many, v_lengths, v_authors, v_sums, .ref hrow, .ref hmade, .int (nI k), .ref hbase, .int (nI kb), v_text, .int i_textSize, .int i_textSteps, v_other, .int i_otherSize, v_piece, .int i_pieceSize, .int (nI ab), .int (nI en), .int vv])), (hmade, .inl (cM, 256, .inl ((f)))), (hbase, .inl (cB, 256, .inl ((fb)))), (hrow, .inl (cW, 16384, .inl ((fr))))]) [0, 1, 2, 3] rfl
      have hKc := hK.sub (tys' := [(cM, .byte), (cB, .byte), (cW, .byte)]) [0, 1, 2] rfl
      have hDc := hD.sub (ws' := [(h0, .inr (7, [.int i_thrown, .int i_down, .int i_lasts, v_buffer, .int i_size, .int i_documents, v_gone, v_first, v_many, v_lengths, v_authors, v_sums, .ref hrow, .ref hmade, .int (nI k), .ref hbase, .int (nI kb), v_text, .int i_textSize, .int i_textSteps, v_other, .int i_otherSize, v_piece, .int i_pieceSize, .int (nI ab), .int (nI en), .int vv])), (hmade, .inl (cM, 256, .inl ((f)))), (hbase, .inl (cB, 256, .inl ((fb)))), (hrow, .inl (cW, 16384, .inl ((fr))))]) [0, 1, 2, 3] (by decide) rfl
      have hFc := va_free (wc := [(h0, .inr (7, [.int i_thrown, .int i_down, .int i_lasts, v_buffer, .int i_size, .int i_documents, v_gone, v_first, v_many, v_lengths, v_authors, v_sums, .ref hrow, .ref hmade, .int (nI k), .ref hbase, .int (nI kb), v_text, .int i_textSize, .int i_textSteps, v_other, .int i_otherSize, v_piece, .int i_pieceSize, .int (nI ab), .int (nI en), .int vv])), (hmade, .inl (cM, 256, .inl ((f)))), (hbase, .inl (cB, 256, .inl ((fb)))), (hrow, .inl (cW, 16384, .inl ((fr))))]) hD hS hA [0, 1, 2, 3] rfl
      refine va_calli (va_runV (As := []) (rest := []) ⟨hx, hb, hml, hown, hw0⟩ (o_command l dC dI H.size h0 i_thrown i_down i_lasts v_buffer i_size i_documents v_gone v_first v_many v_lengths v_authors v_sums v_text i_textSize i_textSteps v_other i_otherSize v_piece i_pieceSize vv hmade cM k _ hbase cB kb (fb) _ hrow cW (fr) _ ab en _ _ (f) (by first | assumption | decide | omega) (by first | assumption | decide | omega) (by first | assumption | decide | omega) (by first | assumption | decide | omega) (by first | assumption | decide | omega) (by first | assumption | decide | omega) (by first | assumption | decide | omega) (by first | assumption | decide | omega)) (cwV 0 hw0 (gd_Vm wm_290 wm_291 wm_292 wm_243 wm_293) rfl rfl rfl (by decide +kernel) ⟨by decide +kernel, by decide +kernel⟩) (prV_E hPc hKc hDc hN (va_recv hKc hPc (ci := 7) (q0 := 0) rfl rfl)) rfl rfl hl.1 rfl (lv_room (Nat.le_of_ble_eq_true rfl)) d_O_makes_79 ⟨by decide +kernel, by decide +kernel⟩) hS (fun q _ h => hFc q h) hFc (fun r_2 u t H1 locs ht hvm hw hB hz1 hk1 hS => ?_)
      obtain ⟨a2_3, ab2_4, k2_5, f2_6, T2_7, vv_8, ⟨hu_9_0, hu_9_1⟩, hP1, hK1, hD1⟩ := hB
      rw [ht] at hP1
      have hK1 := va_K.moved hvm.symm hK1
      try dsimp only at hw
      obtain ⟨hP, hD⟩ := va_joinQ (wr := []) (w1 := [(h0, .inr (7, [.int i_thrown, .int i_down, .int i_lasts, v_buffer, .int i_size, .int i_documents, v_gone, v_first, v_many, v_lengths, v_authors, v_sums, .ref hrow, .ref hmade, .int (nI k2_5), .ref hbase, .int (nI kb), v_text, .int i_textSize, .int i_textSteps, v_other, .int i_otherSize, v_piece, .int i_pieceSize, .int (nI ab2_4), .int (nI en), .int vv_8])), (hmade, .inl (cM, 256, .inl (f2_6))), (hbase, .inl (cB, 256, .inl ((fb)))), (hrow, .inl (cW, 16384, .inl ((fr))))]) hP hD [0, 1, 2, 3] [] rfl rfl (by decide) (by decide) hk1 hFc hP1 hD1
      generalize H1 = H at hP hS ⊢
      replace hP : va_P (dC, dI) vwCl (([(h0, .inr (7, [.int i_thrown, .int i_down, .int i_lasts, v_buffer, .int i_size, .int i_documents, v_gone, v_first, v_many, v_lengths, v_authors, v_sums, .ref hrow, .ref hmade, .int (nI k2_5), .ref hbase, .int (nI kb), v_text, .int i_textSize, .int i_textSteps, v_other, .int i_otherSize, v_piece, .int i_pieceSize, .int (nI ab2_4), .int (nI en), .int vv_8])), (hmade, .inl (cM, 256, .inl (f2_6))), (hbase, .inl (cB, 256, .inl ((fb)))), (hrow, .inl (cW, 16384, .inl ((fr))))] : va_W) ++ pl) H := hP
      replace hD : va_D A (([(h0, .inr (7, [.int i_thrown, .int i_down, .int i_lasts, v_buffer, .int i_size, .int i_documents, v_gone, v_first, v_many, v_lengths, v_authors, v_sums, .ref hrow, .ref hmade, .int (nI k2_5), .ref hbase, .int (nI kb), v_text, .int i_textSize, .int i_textSteps, v_other, .int i_otherSize, v_piece, .int i_pieceSize, .int (nI ab2_4), .int (nI en), .int vv_8])), (hmade, .inl (cM, 256, .inl (f2_6))), (hbase, .inl (cB, 256, .inl ((fb)))), (hrow, .inl (cW, 16384, .inl ((fr))))] : va_W) ++ pl) := hD
      replace hK : va_K (dC, dI) vwCl [(cM, .byte), (cB, .byte), (cW, .byte)] s := hK
      have hw_10 := hw
      rcases hq9 : cmd S Bs T a with _ | y
      · rw [hq9] at hw_10; obtain rfl : r_2 = 0 := hw_10
        refine lv_if_ne (tgt := 67) hx hb d_O_makes_82 (by decide) (fun h9 => absurd h9 (by decide +kernel)) (fun _ => ?_)
        exact kk2 ab2_4 k2_5 f2_6 T2_7 vv_8 hu_9_0.1 hu_9_0.2.1 (by rw [← hf3, mkF_no hlt hq9]) _ _ (hP.part (cx := [(h0, .inr (7, [.int i_thrown, .int i_down, .int i_lasts, v_buffer, .int i_size, .int i_documents, v_gone, v_first, v_many, v_lengths, v_authors, v_sums, .ref hrow, .ref hmade, .int (nI k2_5), .ref hbase, .int (nI kb), v_text, .int i_textSize, .int i_textSteps, v_other, .int i_otherSize, v_piece, .int i_pieceSize, .int (nI ab2_4), .int (nI en), .int vv_8])), (hmade, .inl (cM, 256, .inl (f2_6))), (hbase, .inl (cB, 256, .inl (fb))), (hrow, .inl (cW, 16384, .inl (fr)))]) [0, 1, 2, 3] rfl) (hD.part (cx := [(h0, .inr (7, [.int i_thrown, .int i_down, .int i_lasts, v_buffer, .int i_size, .int i_documents, v_gone, v_first, v_many, v_lengths, v_authors, v_sums, .ref hrow, .ref hmade, .int (nI k2_5), .ref hbase, .int (nI kb), v_text, .int i_textSize, .int i_textSteps, v_other, .int i_otherSize, v_piece, .int i_pieceSize, .int (nI ab2_4), .int (nI en), .int vv_8])), (hmade, .inl (cM, 256, .inl (f2_6))), (hbase, .inl (cB, 256, .inl (fb))), (hrow, .inl (cW, 16384, .inl (fr)))]) [0, 1, 2, 3] (by decide) rfl) hS ls (lv_sub hl [0] rfl)
      · rw [hq9] at hw_10; obtain rfl : r_2 = 1 := hw_10; have h7 := hu_9_1 y hq9; have h6 := cmd_lt (Nat.le_of_lt hlt) hq9
        refine lv_if_ne (tgt := 67) hx hb d_O_makes_82 (by decide) (fun _ => ?_) (fun h9 => absurd h9 (by decide +kernel))
        exact ih a2_3 hu_9_0.2.2.2 (by omega) ab2_4 k2_5 f2_6 T2_7 vv_8 F1 hu_9_0.2.2.1 hu_9_0.1 hu_9_0.2.1 (by rw [← hf3, mkF_yes hlt hq9, h7.1, h7.2]) (by omega) _ _ (hP.part (cx := [(h0, .inr (7, [.int i_thrown, .int i_down, .int i_lasts, v_buffer, .int i_size, .int i_documents, v_gone, v_first, v_many, v_lengths, v_authors, v_sums, .ref hrow, .ref hmade, .int (nI k2_5), .ref hbase, .int (nI kb), v_text, .int i_textSize, .int i_textSteps, v_other, .int i_otherSize, v_piece, .int i_pieceSize, .int (nI ab2_4), .int (nI en), .int vv_8])), (hmade, .inl (cM, 256, .inl (f2_6))), (hbase, .inl (cB, 256, .inl (fb))), (hrow, .inl (cW, 16384, .inl (fr)))]) [0, 1, 2, 3] rfl) (hD.part (cx := [(h0, .inr (7, [.int i_thrown, .int i_down, .int i_lasts, v_buffer, .int i_size, .int i_documents, v_gone, v_first, v_many, v_lengths, v_authors, v_sums, .ref hrow, .ref hmade, .int (nI k2_5), .ref hbase, .int (nI kb), v_text, .int i_textSize, .int i_textSteps, v_other, .int i_otherSize, v_piece, .int i_pieceSize, .int (nI ab2_4), .int (nI en), .int vv_8])), (hmade, .inl (cM, 256, .inl (f2_6))), (hbase, .inl (cB, 256, .inl (fb))), (hrow, .inl (cW, 16384, .inl (fr)))]) [0, 1, 2, 3] (by decide) rfl) hS ls (lv_sub hl [0] rfl)
set_option maxHeartbeats 4000000 in
set_option maxRecDepth 100000 in
theorem lq_mak {p : Program} {l : Launch} {e : Env} {s : State} {m : MethodId} {args : Array Value} {below : List Frame} {meth : Method} {c : Code} {dC : Nat → ClassId} {dI : Nat → Nat → Nat} {A : Nat → Prop} {Q : State → Prop} (h0 : Nat) (hba : Nat) (hta : Nat) (hpi : Nat) (hty : Nat) (cT : ClassId) (hby : Nat) (cB : ClassId) (kb : Nat) (fb : Nat → Int32) (Bs : List Int32) (cP : ClassId) (np : Nat) (fp : Nat → Int32) (S : List Int32) (RR : Option (List Int32)) (pl : va_W) (htb : tx Bs kb fb) (hs9 : tx S np fp) (hkb : kb ≤ 256) (hnp : np ≤ 16384)
    (hx : p.tables.exec = Jvm.exec) (hb : c.code = prog_3_method_4_code) (hml : c.maxLocals = 7) (hown : s.vm.findClass R_M = some m.cls) (hw0 : ∀ w ∈ w0, w.before args s = true) (hN : nw_ok s) (hK : va_K (dC, dI) vwCl [(cT, .byte), (cB, .byte), (cP, .byte)] s) (hA : ∀ q : Nat, s.heap.size ≤ q → A q)
    (kk : ∀ (cnt : Nat) (k : Nat) (f : Nat → Int32) (T : List Int32) (F : Nat), (cnt ≤ np) → (tx T k f) → (k ≤ 256) → (mkF S Bs F T np = RR) → (np ≤ np + F) → ∀ (H : Heap) (locs : List Loc), va_P (dC, dI) vwCl (([(h0, .inr (2, [.ref hba, .ref hta, .ref hpi, .int (nI np)])), (hta, .inr (1, [.ref hty, .int (nI k)])), (hty, .inl (cT, 256, .inl (f))), (hba, .inr (1, [.ref hby, .int (nI kb)])), (hby, .inl (cB, 256, .inl (fb))), (hpi, .inl (cP, np, .inl (fp)))] : va_W) ++ pl) H → va_D A (([(h0, .inr (2, [.ref hba, .ref hta, .ref hpi, .int (nI np)])), (hta, .inr (1, [.ref hty, .int (nI k)])), (hty, .inl (cT, 256, .inl (f))), (hba, .inr (1, [.ref hby, .int (nI kb)])), (hby, .inl (cB, 256, .inl (fb))), (hpi, .inl (cP, np, .inl (fp)))] : va_W) ++ pl) → va_S A s.heap H locs → ∀ ls : Array Slot, lv_has ls 7 [(6, .int (nI cnt)), (5, .int 1), (0, .ref h0)] → W p l e ({ frames := 3, cells := 0, slots := 0, locals := 68 } : Room) s m args below meth c H locs 0 0 Q (F0 m 99 ls []))
    (kk2 : ∀ (a : Nat) (k : Nat) (f : Nat → Int32) (T : List Int32), (tx T k f) → (k ≤ 256) → (RR = none) → ∀ (H : Heap) (locs : List Loc), va_P (dC, dI) vwCl (([(h0, .inr (2, [.ref hba, .ref hta, .ref hpi, .int (nI a)])), (hta, .inr (1, [.ref hty, .int (nI k)])), (hty, .inl (cT, 256, .inl (f))), (hba, .inr (1, [.ref hby, .int (nI kb)])), (hby, .inl (cB, 256, .inl (fb))), (hpi, .inl (cP, np, .inl (fp)))] : va_W) ++ pl) H → va_D A (([(h0, .inr (2, [.ref hba, .ref hta, .ref hpi, .int (nI a)])), (hta, .inr (1, [.ref hty, .int (nI k)])), (hty, .inl (cT, 256, .inl (f))), (hba, .inr (1, [.ref hby, .int (nI kb)])), (hby, .inl (cB, 256, .inl (fb))), (hpi, .inl (cP, np, .inl (fp)))] : va_W) ++ pl) → va_S A s.heap H locs → ∀ ls : Array Slot, lv_has ls 7 [(5, .int 0), (0, .ref h0)] → W p l e ({ frames := 3, cells := 0, slots := 0, locals := 68 } : Room) s m args below meth c H locs 0 0 Q (F0 m 99 ls [])) :
    ∀ (n a : Nat), a ≤ np → np < a + n → ∀ (cnt : Nat) (k : Nat) (f : Nat → Int32) (T : List Int32) (F : Nat), (cnt ≤ a) → (tx T k f) → (k ≤ 256) → (mkF S Bs F T a = RR) → (np ≤ a + F) → ∀ (H : Heap) (locs : List Loc), va_P (dC, dI) vwCl (([(h0, .inr (2, [.ref hba, .ref hta, .ref hpi, .int (nI a)])), (hta, .inr (1, [.ref hty, .int (nI k)])), (hty, .inl (cT, 256, .inl (f))), (hba, .inr (1, [.ref hby, .int (nI kb)])), (hby, .inl (cB, 256, .inl (fb))), (hpi, .inl (cP, np, .inl (fp)))] : va_W) ++ pl) H → va_D A (([(h0, .inr (2, [.ref hba, .ref hta, .ref hpi, .int (nI a)])), (hta, .inr (1, [.ref hty, .int (nI k)])), (hty, .inl (cT, 256, .inl (f))), (hba, .inr (1, [.ref hby, .int (nI kb)])), (hby, .inl (cB, 256, .inl (fb))), (hpi, .inl (cP, np, .inl (fp)))] : va_W) ++ pl) → va_S A s.heap H locs → ∀ ls : Array Slot, lv_has ls 7 [(6, .int (nI cnt)), (5, .int 1), (0, .ref h0)] → W p l e ({ frames := 3, cells := 0, slots := 0, locals := 68 } : Room) s m args below meth c H locs 0 0 Q (F0 m 60 ls []) := by
  intro n
  induction n with
  | zero => intro a h1 h2; exact absurd h2 (by omega)
  | succ n ih =>
    intro a hj hn cnt k f T F hf0 hf1 hf2 hf3 hf4 H locs hP hD hS ls hl
    refine lv_iload hx hb d_M_makeNext_60 (lv_at hl 0 rfl) ?_
    refine lv_aload_n hx hb d_M_makeNext_62 rfl (lv_at hl 2 rfl) ?_
    refine va_get (D := (dC, dI)) (ci := 2) (v := .ref hpi) (C := R_M) (T := F_M) (N := 4) hx hb hw0 in_M hown hK hP 0 rfl rfl 2 (by decide) (hw0 (.fieldLink R_M 21 "TextKeeper$Maker" "piece" "[B") wm_157) (fun _ h9 => h9) rfl d_M_makeNext_63 ?_
    refine va_alen (v := nI np) hx hb hK hP 5 2 rfl rfl (rfl) d_M_makeNext_66 ?_
    refine lv_icmp_ge (tgt := 99) hx hb d_M_makeNext_67 (by decide) (fun c_1 => ?_) (fun c_1 => ?_)
    · obtain rfl : a = np := (by have h8 := (nI_leI (by omega) (by omega)).mp c_1; omega)
      exact kk cnt k f T F hf0 hf1 hf2 hf3 hf4 _ _ hP hD hS ls (lv_sub hl [0, 1, 2] rfl)
    · refine lv_aload_n hx hb d_M_makeNext_70 rfl (lv_at hl 2 rfl) ?_
      refine va_get (D := (dC, dI)) (ci := 2) (v := .int (nI a)) (C := R_M) (T := F_M) (N := 4) hx hb hw0 in_M hown hK hP 0 rfl rfl 3 (by decide) (hw0 (.fieldLink R_M 25 "TextKeeper$Maker" "at" "I") wm_158) (fun _ h9 => h9) rfl d_M_makeNext_71 ?_
      refine lv_aload_n hx hb d_M_makeNext_74 rfl (lv_at hl 2 rfl) ?_
      refine va_get (D := (dC, dI)) (ci := 2) (v := .ref hpi) (C := R_M) (T := F_M) (N := 4) hx hb hw0 in_M hown hK hP 0 rfl rfl 2 (by decide) (hw0 (.fieldLink R_M 21 "TextKeeper$Maker" "piece" "[B") wm_157) (fun _ h9 => h9) rfl d_M_makeNext_75 ?_
      refine va_alen (v := nI np) hx hb hK hP 5 2 rfl rfl (rfl) d_M_makeNext_78 ?_
      refine lv_icmp_ge (tgt := 99) hx hb d_M_makeNext_79 (by decide) (fun c_2 => ?_) (fun c_2 => ?_)
      · obtain rfl : a = np := (by have h8 := (nI_leI (by omega) (by omega)).mp c_2; omega)
        exact kk cnt k f T F hf0 hf1 hf2 hf3 hf4 _ _ hP hD hS ls (lv_sub hl [0, 1, 2] rfl)
      · have hlt : a < np := (by rcases Nat.lt_or_ge a np with z | z; exact z; exact absurd (nI_le (by omega) (by omega)) c_2); obtain ⟨F1, rfl⟩ : ∃ z, F = z + 1 := ⟨F - 1, by omega⟩; have ha9 : a ≤ np := Nat.le_of_lt hlt
        refine lv_iload hx hb d_M_makeNext_82 (lv_at hl 1 rfl) ?_
        refine lv_if_eq (tgt := 99) hx hb d_M_makeNext_84 (by decide) (fun h9 => absurd h9 (by decide +kernel)) (fun _ => ?_)
        refine lv_aload_n hx hb d_M_makeNext_87 rfl (lv_at hl 2 rfl) ?_
        have hPc := hP.sub (ws' := [(h0, .inr (2, [.ref hba, .ref hta, .ref hpi, .int (nI a)])), (hta, .inr (1, [.ref hty, .int (nI k)])), (hty, .inl (cT, 256, .inl ((f)))), (hba, .inr (1, [.ref hby, .int (nI kb)])), (hby, .inl (cB, 256, .inl ((fb)))), (hpi, .inl (cP, np, .inl ((fp))))]) [0, 1, 2, 3, 4, 5] rfl
        have hKc := hK.sub (tys' := [(cT, .byte), (cB, .byte), (cP, .byte)]) [0, 1, 2] rfl
        have hDc := hD.sub (ws' := [(h0, .inr (2, [.ref hba, .ref hta, .ref hpi, .int (nI a)])), (hta, .inr (1, [.ref hty, .int (nI k)])), (hty, .inl (cT, 256, .inl ((f)))), (hba, .inr (1, [.ref hby, .int (nI kb)])), (hby, .inl (cB, 256, .inl ((fb)))), (hpi, .inl (cP, np, .inl ((fp))))]) [0, 1, 2, 3, 4, 5] (by decide) rfl
        have hFc := va_free (wc := [(h0, .inr (2, [.ref hba, .ref hta, .ref hpi, .int (nI a)])), (hta, .inr (1, [.ref hty, .int (nI k)])), (hty, .inl (cT, 256, .inl ((f)))), (hba, .inr (1, [.ref hby, .int (nI kb)])), (hby, .inl (cB, 256, .inl ((fb)))), (hpi, .inl (cP, np, .inl ((fp))))]) hD hS hA [0, 1, 2, 3, 4, 5] rfl
        refine va_calli (va_runV (As := []) (rest := []) ⟨hx, hb, hml, hown, hw0⟩ (g_obey l dC dI H.size h0 hba hta hpi hty cT k _ hby cB kb (fb) _ cP np (fp) _ a (f) (by first | assumption | decide | omega) (by first | assumption | decide | omega) (by first | assumption | decide | omega) (by first | assumption | decide | omega) (by first | assumption | decide | omega) (by first | assumption | decide | omega) (by first | assumption | decide | omega)) (cwV 0 hw0 (gd_Vm wm_294 wm_295 wm_296 wm_169 wm_297) rfl rfl rfl (by decide +kernel) ⟨by decide +kernel, by decide +kernel⟩) (prV_E hPc hKc hDc hN (va_recv hKc hPc (ci := 2) (q0 := 0) rfl rfl)) rfl rfl hl.1 rfl (lv_room (Nat.le_of_ble_eq_true rfl)) d_M_makeNext_88 ⟨by decide +kernel, by decide +kernel⟩) hS (fun q _ h => hFc q h) hFc (fun r_3 u t H1 locs ht hvm hw hB hz1 hk1 hS => ?_)
        obtain ⟨a2_4, k2_5, f2_6, T2_7, ⟨hu_8_0, hu_8_1⟩, hP1, hK1, hD1⟩ := hB
        rw [ht] at hP1
        have hK1 := va_K.moved hvm.symm hK1
        try dsimp only at hw
        obtain ⟨hP, hD⟩ := va_joinQ (wr := []) (w1 := [(h0, .inr (2, [.ref hba, .ref hta, .ref hpi, .int (nI a2_4)])), (hta, .inr (1, [.ref hty, .int (nI k2_5)])), (hty, .inl (cT, 256, .inl (f2_6))), (hba, .inr (1, [.ref hby, .int (nI kb)])), (hby, .inl (cB, 256, .inl ((fb)))), (hpi, .inl (cP, np, .inl ((fp))))]) hP hD [0, 1, 2, 3, 4, 5] [] rfl rfl (by decide) (by decide) hk1 hFc hP1 hD1
        generalize H1 = H at hP hS ⊢
        replace hP : va_P (dC, dI) vwCl (([(h0, .inr (2, [.ref hba, .ref hta, .ref hpi, .int (nI a2_4)])), (hta, .inr (1, [.ref hty, .int (nI k2_5)])), (hty, .inl (cT, 256, .inl (f2_6))), (hba, .inr (1, [.ref hby, .int (nI kb)])), (hby, .inl (cB, 256, .inl ((fb)))), (hpi, .inl (cP, np, .inl ((fp))))] : va_W) ++ pl) H := hP
        replace hD : va_D A (([(h0, .inr (2, [.ref hba, .ref hta, .ref hpi, .int (nI a2_4)])), (hta, .inr (1, [.ref hty, .int (nI k2_5)])), (hty, .inl (cT, 256, .inl (f2_6))), (hba, .inr (1, [.ref hby, .int (nI kb)])), (hby, .inl (cB, 256, .inl ((fb)))), (hpi, .inl (cP, np, .inl ((fp))))] : va_W) ++ pl) := hD
        replace hK : va_K (dC, dI) vwCl [(cT, .byte), (cB, .byte), (cP, .byte)] s := hK
        have hw_9 := hw
        rcases hq9 : cmd S Bs T a with _ | y
        · rw [hq9] at hw_9; obtain rfl : r_3 = 0 := hw_9
          refine lv_istore (lv' := [(5, .int 0), (6, .int (nI cnt)), (0, .ref h0)]) hx hb d_M_makeNext_91 hl (by decide) rfl (fun ls hl => ?_)
          refine lv_iinc (v := nI (cnt + 1)) (lv' := [(6, .int (nI (cnt + 1))), (5, .int 0), (0, .ref h0)]) hx hb d_M_makeNext_93 hl (k := 1) rfl (nI_1 cnt) (by decide) rfl (fun ls hl => ?_)
          refine lv_goto (tgt := 60) hx hb d_M_makeNext_96 (by decide) ?_
          refine lv_iload hx hb d_M_makeNext_60 (lv_at hl 0 rfl) ?_
          refine lv_aload_n hx hb d_M_makeNext_62 rfl (lv_at hl 2 rfl) ?_
          refine va_get (D := (dC, dI)) (ci := 2) (v := .ref hpi) (C := R_M) (T := F_M) (N := 4) hx hb hw0 in_M hown hK hP 0 rfl rfl 2 (by decide) (hw0 (.fieldLink R_M 21 "TextKeeper$Maker" "piece" "[B") wm_157) (fun _ h9 => h9) rfl d_M_makeNext_63 ?_
          refine va_alen (v := nI np) hx hb hK hP 5 2 rfl rfl (rfl) d_M_makeNext_66 ?_
          refine lv_icmp_ge (tgt := 99) hx hb d_M_makeNext_67 (by decide) (fun c_10 => ?_) (fun c_10 => ?_)
          · exact kk2 a2_4 k2_5 f2_6 T2_7 hu_8_0.1 hu_8_0.2.1 (by rw [← hf3, mkF_no (by rw [hs9.1]; exact hlt) hq9]) _ _ (hP.part (cx := [(h0, .inr (2, [.ref hba, .ref hta, .ref hpi, .int (nI a2_4)])), (hta, .inr (1, [.ref hty, .int (nI k2_5)])), (hty, .inl (cT, 256, .inl (f2_6))), (hba, .inr (1, [.ref hby, .int (nI kb)])), (hby, .inl (cB, 256, .inl (fb))), (hpi, .inl (cP, np, .inl (fp)))]) [0, 1, 2, 3, 4, 5] rfl) (hD.part (cx := [(h0, .inr (2, [.ref hba, .ref hta, .ref hpi, .int (nI a2_4)])), (hta, .inr (1, [.ref hty, .int (nI k2_5)])), (hty, .inl (cT, 256, .inl (f2_6))), (hba, .inr (1, [.ref hby, .int (nI kb)])), (hby, .inl (cB, 256, .inl (fb))), (hpi, .inl (cP, np, .inl (fp)))]) [0, 1, 2, 3, 4, 5] (by decide) rfl) hS ls (lv_sub hl [1, 2] rfl)
          · refine lv_aload_n hx hb d_M_makeNext_70 rfl (lv_at hl 2 rfl) ?_
            refine va_get (D := (dC, dI)) (ci := 2) (v := .int (nI a2_4)) (C := R_M) (T := F_M) (N := 4) hx hb hw0 in_M hown hK hP 0 rfl rfl 3 (by decide) (hw0 (.fieldLink R_M 25 "TextKeeper$Maker" "at" "I") wm_158) (fun _ h9 => h9) rfl d_M_makeNext_71 ?_
            refine lv_aload_n hx hb d_M_makeNext_74 rfl (lv_at hl 2 rfl) ?_
            refine va_get (D := (dC, dI)) (ci := 2) (v := .ref hpi) (C := R_M) (T := F_M) (N := 4) hx hb hw0 in_M hown hK hP 0 rfl rfl 2 (by decide) (hw0 (.fieldLink R_M 21 "TextKeeper$Maker" "piece" "[B") wm_157) (fun _ h9 => h9) rfl d_M_makeNext_75 ?_
            refine va_alen (v := nI np) hx hb hK hP 5 2 rfl rfl (rfl) d_M_makeNext_78 ?_
            refine lv_icmp_ge (tgt := 99) hx hb d_M_makeNext_79 (by decide) (fun c_11 => ?_) (fun c_11 => ?_)
            · exact kk2 a2_4 k2_5 f2_6 T2_7 hu_8_0.1 hu_8_0.2.1 (by rw [← hf3, mkF_no (by rw [hs9.1]; exact hlt) hq9]) _ _ (hP.part (cx := [(h0, .inr (2, [.ref hba, .ref hta, .ref hpi, .int (nI a2_4)])), (hta, .inr (1, [.ref hty, .int (nI k2_5)])), (hty, .inl (cT, 256, .inl (f2_6))), (hba, .inr (1, [.ref hby, .int (nI kb)])), (hby, .inl (cB, 256, .inl (fb))), (hpi, .inl (cP, np, .inl (fp)))]) [0, 1, 2, 3, 4, 5] rfl) (hD.part (cx := [(h0, .inr (2, [.ref hba, .ref hta, .ref hpi, .int (nI a2_4)])), (hta, .inr (1, [.ref hty, .int (nI k2_5)])), (hty, .inl (cT, 256, .inl (f2_6))), (hba, .inr (1, [.ref hby, .int (nI kb)])), (hby, .inl (cB, 256, .inl (fb))), (hpi, .inl (cP, np, .inl (fp)))]) [0, 1, 2, 3, 4, 5] (by decide) rfl) hS ls (lv_sub hl [1, 2] rfl)
            · have hz9 := hj
              refine lv_iload hx hb d_M_makeNext_82 (lv_at hl 1 rfl) ?_
              refine lv_if_eq (tgt := 99) hx hb d_M_makeNext_84 (by decide) (fun _ => ?_) (fun h9 => absurd h9 (by decide +kernel))
              exact kk2 a2_4 k2_5 f2_6 T2_7 hu_8_0.1 hu_8_0.2.1 (by rw [← hf3, mkF_no (by rw [hs9.1]; exact hlt) hq9]) _ _ (hP.part (cx := [(h0, .inr (2, [.ref hba, .ref hta, .ref hpi, .int (nI a2_4)])), (hta, .inr (1, [.ref hty, .int (nI k2_5)])), (hty, .inl (cT, 256, .inl (f2_6))), (hba, .inr (1, [.ref hby, .int (nI kb)])), (hby, .inl (cB, 256, .inl (fb))), (hpi, .inl (cP, np, .inl (fp)))]) [0, 1, 2, 3, 4, 5] rfl) (hD.part (cx := [(h0, .inr (2, [.ref hba, .ref hta, .ref hpi, .int (nI a2_4)])), (hta, .inr (1, [.ref hty, .int (nI k2_5)])), (hty, .inl (cT, 256, .inl (f2_6))), (hba, .inr (1, [.ref hby, .int (nI kb)])), (hby, .inl (cB, 256, .inl (fb))), (hpi, .inl (cP, np, .inl (fp)))]) [0, 1, 2, 3, 4, 5] (by decide) rfl) hS ls (lv_sub hl [1, 2] rfl)
        · rw [hq9] at hw_9; obtain rfl : r_3 = 1 := hw_9; have h7 := hu_8_1 y hq9; have h6 := cmd_lt (by rw [hs9.1]; exact Nat.le_of_lt hlt) hq9
          refine lv_istore (lv' := [(5, .int 1), (6, .int (nI cnt)), (0, .ref h0)]) hx hb d_M_makeNext_91 hl (by decide) rfl (fun ls hl => ?_)
          refine lv_iinc (v := nI (cnt + 1)) (lv' := [(6, .int (nI (cnt + 1))), (5, .int 1), (0, .ref h0)]) hx hb d_M_makeNext_93 hl (k := 1) rfl (nI_1 cnt) (by decide) rfl (fun ls hl => ?_)
          refine lv_goto (tgt := 60) hx hb d_M_makeNext_96 (by decide) ?_
          exact ih a2_4 hu_8_0.2.2 (by omega) (cnt + 1) k2_5 f2_6 T2_7 F1 (by omega) hu_8_0.1 hu_8_0.2.1 (by rw [← hf3, mkF_yes (by rw [hs9.1]; exact hlt) hq9, h7.1, h7.2]) (by omega) _ _ (hP.part (cx := [(h0, .inr (2, [.ref hba, .ref hta, .ref hpi, .int (nI a2_4)])), (hta, .inr (1, [.ref hty, .int (nI k2_5)])), (hty, .inl (cT, 256, .inl (f2_6))), (hba, .inr (1, [.ref hby, .int (nI kb)])), (hby, .inl (cB, 256, .inl (fb))), (hpi, .inl (cP, np, .inl (fp)))]) [0, 1, 2, 3, 4, 5] rfl) (hD.part (cx := [(h0, .inr (2, [.ref hba, .ref hta, .ref hpi, .int (nI a2_4)])), (hta, .inr (1, [.ref hty, .int (nI k2_5)])), (hty, .inl (cT, 256, .inl (f2_6))), (hba, .inr (1, [.ref hby, .int (nI kb)])), (hby, .inl (cB, 256, .inl (fb))), (hpi, .inl (cP, np, .inl (fp)))]) [0, 1, 2, 3, 4, 5] (by decide) rfl) hS ls (lv_sub hl [0, 1, 2] rfl)
end
section
theorem va_P.perm {D : va_G} {cl : List vw_C} {ws ws' : va_W} {H : Heap} (h : va_P D cl ws H) (p : ws.Perm ws') : va_P D cl ws' H := fun k q hk => by
  obtain ⟨i, hi⟩ := List.getElem?_of_mem (p.mem_iff.mpr (List.mem_of_getElem? hk))
  exact h i q hi
theorem va_D_iff {A : Nat → Prop} {ws : va_W} : va_D A ws ↔ ws.Pairwise (fun p q => p.1 ≠ q.1) ∧ ∀ q ∈ ws, A q.1 := by
  constructor
  · intro h
    refine ⟨List.pairwise_iff_getElem.mpr (fun i j hi hj hij e => ?_), fun q hq => ?_⟩
    · have := h.1 i j _ _ (List.getElem?_eq_getElem hi) (List.getElem?_eq_getElem hj) e
      omega
    · obtain ⟨i, hi⟩ := List.getElem?_of_mem hq
      exact h.2 i q hi
  · intro h
    refine ⟨fun i j p q hp hq e => ?_, fun k q hk => h.2 q (List.mem_of_getElem? hk)⟩
    obtain ⟨hi, rfl⟩ := List.getElem?_eq_some_iff.mp hp
    obtain ⟨hj, rfl⟩ := List.getElem?_eq_some_iff.mp hq
    rcases Nat.lt_trichotomy i j with z | z | z
    · exact absurd e (List.pairwise_iff_getElem.mp h.1 i j hi hj z)
    · exact z
    · exact absurd e.symm (List.pairwise_iff_getElem.mp h.1 j i hj hi z)
theorem va_D.perm {A : Nat → Prop} {ws ws' : va_W} (h : va_D A ws) (p : ws.Perm ws') : va_D A ws' := by
  rw [va_D_iff] at h ⊢
  exact ⟨(p.pairwise_iff (fun h => Ne.symm h)).mp h.1, fun q hq => h.2 q (p.mem_iff.mpr hq)⟩
theorem pl_take {X pl Y pl' : va_W} (p : pl.Perm (Y ++ pl')) : (X ++ pl).Perm ((X ++ Y) ++ pl') := by
  rw [List.append_assoc]
  exact p.append_left X
theorem va_P.left {D : va_G} {cl : List vw_C} {X Y : va_W} {H : Heap} (h : va_P D cl (X ++ Y) H) : va_P D cl X H := fun k q hk => h k q (by rw [List.getElem?_append_left (List.getElem?_eq_some_iff.mp hk).1]; exact hk)
theorem va_D.left {A : Nat → Prop} {X Y : va_W} (h : va_D A (X ++ Y)) : va_D A X := by
  rw [va_D_iff] at h ⊢
  exact ⟨(List.pairwise_append.mp h.1).1, fun q hq => h.2 q (List.mem_append_left _ hq)⟩
theorem va_K.one {D : va_G} {cl : List vw_C} {tys : List (ClassId × FieldType)} {U : State} (h : va_K D cl tys U) {a b : ClassId} {ty : FieldType} (i j : Nat) (hi : tys[i]? = some (a, ty)) (hj : tys[j]? = some (b, ty)) : a = b := by
  have h1 := (h.2 i _ hi).2
  have h2 := (h.2 j _ hj).2
  cases ty with
  | object C =>
    obtain ⟨_, _, _, _, _, e1⟩ := h1
    obtain ⟨_, _, _, _, _, e2⟩ := h2
    exact Option.some.inj (e1.symm.trans e2)
  | _ => exact Option.some.inj (Eq.trans (Eq.symm h1) h2)
def fl {α : Type} (f : Nat → List α) : Nat → List α
  | 0 => []
  | n + 1 => fl f n ++ f n
theorem fl_congr {α : Type} {f g : Nat → List α} : ∀ {n : Nat}, (∀ j, j < n → f j = g j) → fl f n = fl g n
  | 0, _ => rfl
  | n + 1, h => by rw [fl, fl, fl_congr (fun j hj => h j (by omega)), h n (by omega)]
theorem fl_take {α : Type} {f g : Nat → List α} {i : Nat} (hg : ∀ j, j ≠ i → g j = f j) (h0 : g i = []) : ∀ {n : Nat}, i < n → (fl f n).Perm (f i ++ fl g n)
  | 0, h => absurd h (Nat.not_lt_zero i)
  | n + 1, h => by
    rcases Nat.lt_or_ge i n with z | z
    · have ih := fl_take hg h0 z
      rw [fl, fl, ← List.append_assoc, hg n (by omega)]
      exact ih.append_right (f n)
    · obtain rfl : i = n := by omega
      rw [fl, fl, h0, List.append_nil, fl_congr (g := f) (f := g) (fun j hj => hg j (by omega))]
      exact List.perm_append_comm
abbrev Rc : Type := (Nat) × (Nat) × (Nat) × (Nat → Int32) × (List Int32) × (Int32) × (Int32)
abbrev Rc.a (x : Rc) : Nat := x.1
abbrev Rc.pa (x : Rc) : Nat := x.2.1
abbrev Rc.np (x : Rc) : Nat := x.2.2.1
abbrev Rc.fp (x : Rc) : Nat → Int32 := x.2.2.2.1
abbrev Rc.S (x : Rc) : List Int32 := x.2.2.2.2.1
abbrev Rc.au (x : Rc) : Int32 := x.2.2.2.2.2.1
abbrev Rc.sm (x : Rc) : Int32 := x.2.2.2.2.2.2
abbrev rcW (cB : ClassId) (r : Rc) : va_W := [(r.a, .inr (6, [.ref r.pa, .int r.au, .int r.sm])), (r.pa, .inl (cB, r.np, .inl r.fp))]
def rvA (rv : Nat → Option Rc) : Nat → Option Nat := fun j => (rv j).map Rc.a
def rcO (cB : ClassId) : Option Rc → va_W
  | none => []
  | some r => rcW cB r
def rvW (cB : ClassId) (rv : Nat → Option Rc) : va_W := fl (fun j => rcO cB (rv j)) 64
def rvOk (rv : Nat → Option Rc) : Prop := ∀ j r, rv j = some r → tx r.S r.np r.fp ∧ r.np ≤ 1024
theorem rvW_take {cB : ClassId} {rv : Nat → Option Rc} {j : Nat} {r : Rc} (hj : j < 64) (h : rv j = some r) : (rvW cB rv).Perm (rcW cB r ++ rvW cB (va_up rv j none)) := by
  have := fl_take (f := fun j => rcO cB (rv j)) (g := fun k => rcO cB (va_up rv j none k)) (i := j) (fun k hk => by simp only [va_up_ne _ _ hk]) (by simp only [va_up_self]; rfl) hj
  simp only [h] at this
  exact this
theorem rvW_put {cB : ClassId} {rv : Nat → Option Rc} {j : Nat} {r : Rc} (hj : j < 64) : (rvW cB (va_up rv j (some r))).Perm (rcW cB r ++ rvW cB (va_up rv j none)) := by
  have := rvW_take (cB := cB) hj (va_up_self rv j (some r))
  have e : va_up (va_up rv j (some r)) j none = va_up rv j none := funext (fun k => by unfold va_up; split <;> rfl)
  rw [e] at this
  exact this
def plR (cB : ClassId) (rv : Nat → Option Rc) (pl : va_W) : Prop := ∀ j r, j < 64 → rv j = some r → ∃ pl', pl.Perm (rcW cB r ++ pl')
theorem plR_of {cB : ClassId} {rv : Nat → Option Rc} {pl : va_W} : plR cB rv (rvW cB rv ++ pl) := fun j r hj h =>
  ⟨rvW cB (va_up rv j none) ++ pl, by rw [← List.append_assoc]; exact (rvW_take hj h).append_right pl⟩
abbrev Dc : Type := (Nat) × (Nat) × (Nat) × (Nat) × (Nat → Option Rc)
abbrev Dc.a (x : Dc) : Nat := x.1
abbrev Dc.ra (x : Dc) : Nat := x.2.1
abbrev Dc.first (x : Dc) : Nat := x.2.2.1
abbrev Dc.count (x : Dc) : Nat := x.2.2.2.1
abbrev Dc.rv (x : Dc) : Nat → Option Rc := x.2.2.2.2
abbrev dcH (cR : ClassId) (d : Dc) : va_W := [(d.a, .inr (5, [.ref d.ra, .int (nI d.first), .int (nI d.count)])), (d.ra, .inl (cR, 64, .inr (.inr (.inr (.inr (rvA d.rv))))))]
def dcO (cB cR : ClassId) : Option Dc → va_W
  | none => []
  | some d => dcH cR d ++ rvW cB d.rv
def pW (cB cR : ClassId) (ds : Nat → Option Dc) : va_W := fl (fun i => dcO cB cR (ds i)) 8
def dsA (ds : Nat → Option Dc) : Nat → Option Nat := fun i => (ds i).map Dc.a
theorem pW_take {cB cR : ClassId} {ds : Nat → Option Dc} {i : Nat} {d : Dc} (hi : i < 8) (h : ds i = some d) : (pW cB cR ds).Perm (dcH cR d ++ (rvW cB d.rv ++ pW cB cR (va_up ds i none))) := by
  have := fl_take (f := fun j => dcO cB cR (ds j)) (g := fun k => dcO cB cR (va_up ds i none k)) (i := i) (fun k hk => by simp only [va_up_ne _ _ hk]) (by simp only [va_up_self]; rfl) hi
  simp only [h] at this
  rw [← List.append_assoc]
  exact this
theorem pW_put {cB cR : ClassId} {ds : Nat → Option Dc} {i : Nat} {d : Dc} (hi : i < 8) : (pW cB cR (va_up ds i (some d))).Perm (dcH cR d ++ (rvW cB d.rv ++ pW cB cR (va_up ds i none))) := by
  have := pW_take (cB := cB) (cR := cR) hi (va_up_self ds i (some d))
  have e : va_up (va_up ds i (some d)) i none = va_up ds i none := funext (fun k => by unfold va_up; split <;> rfl)
  rw [e] at this
  exact this
theorem pW_none {ds : Nat → Option Dc} {i : Nat} (h : ds i = none) : va_up ds i none = ds := funext (fun k => by unfold va_up; split <;> simp_all)
def hi6 (j r : Nat) : Nat := r / 2 ^ (6 - j) * 2 ^ (6 - j)
def bt6 (j : Nat) : Nat := 2 ^ (6 - j) / 2
theorem bt6_iff : ∀ r j, r < 64 → j < 6 → (nI r &&& nI (bt6 j) = 0 ↔ hi6 (j + 1) r = hi6 j r) ∧ (hi6 (j + 1) r = hi6 j r ∨ hi6 (j + 1) r = hi6 j r + bt6 j) ∧ hi6 j r ≤ r ∧ hi6 (j + 1) r ≤ r ∧ bt6 j / 2 = bt6 (j + 1) ∧ 0 < bt6 j ∧ bt6 j ≤ 32 := by
  have h : ∀ r : Fin 64, ∀ j : Fin 6, (nI r.1 &&& nI (bt6 j.1) = 0 ↔ hi6 (j.1 + 1) r.1 = hi6 j.1 r.1) ∧ (hi6 (j.1 + 1) r.1 = hi6 j.1 r.1 ∨ hi6 (j.1 + 1) r.1 = hi6 j.1 r.1 + bt6 j.1) ∧ hi6 j.1 r.1 ≤ r.1 ∧ hi6 (j.1 + 1) r.1 ≤ r.1 ∧ bt6 j.1 / 2 = bt6 (j.1 + 1) ∧ 0 < bt6 j.1 ∧ bt6 j.1 ≤ 32 := by decide +kernel
  intro r j hr hj
  exact h ⟨r, hr⟩ ⟨j, hj⟩
theorem hi6_0 {r : Nat} (h : r < 64) : hi6 0 r = 0 := by
  unfold hi6
  rw [Nat.div_eq_of_lt (by simpa using h)]
theorem hi6_6 (r : Nat) : hi6 6 r = r := by simp [hi6]
def stp6 (pc : Nat → Option (List Int32)) (T : Option (List Int32)) (k : Nat) : Option (List Int32) :=
  match T, pc k with
  | some T, some S => mak S T
  | _, _ => none
def agJ (pc : Nat → Option (List Int32)) (r : Nat) : Nat → Option (List Int32)
  | 0 => stp6 pc (some []) 0
  | j + 1 => if hi6 (j + 1) r = hi6 j r then agJ pc r j else stp6 pc (agJ pc r j) (hi6 (j + 1) r)
def agn (pc : Nat → Option (List Int32)) (r : Nat) : Option (List Int32) := agJ pc r 6
theorem agJ_same {pc : Nat → Option (List Int32)} {r j : Nat} (h : hi6 (j + 1) r = hi6 j r) : agJ pc r (j + 1) = agJ pc r j := by rw [agJ, if_pos h]
theorem agJ_step {pc : Nat → Option (List Int32)} {r j : Nat} (h : ¬ hi6 (j + 1) r = hi6 j r) : agJ pc r (j + 1) = stp6 pc (agJ pc r j) (hi6 (j + 1) r) := by rw [agJ, if_neg h]
theorem agJ_none {pc : Nat → Option (List Int32)} {r j : Nat} (h : agJ pc r j = none) : ∀ k, j ≤ k → agJ pc r k = none := by
  intro k hk
  induction k with
  | zero => obtain rfl : j = 0 := by omega
            exact h
  | succ k ih =>
    rcases Nat.lt_or_ge j (k + 1) with z | z
    · have := ih (by omega)
      rw [agJ]
      split
      · exact this
      · rw [this]; rfl
    · obtain rfl : j = k + 1 := by omega
      exact h
theorem stp6_n {pc : Nat → Option (List Int32)} {T : Option (List Int32)} {k : Nat} (h : pc k = none) : stp6 pc T k = none := by
  unfold stp6
  rw [h]
  cases T <;> rfl
theorem stp6_s {pc : Nat → Option (List Int32)} {T S : List Int32} {k : Nat} (h : pc k = some S) : stp6 pc (some T) k = mak S T := by
  unfold stp6
  rw [h]
def rvP (rv : Nat → Option Rc) : Nat → Option (List Int32) := fun j => (rv j).map Rc.S
def atN (n : Nat) (f : Nat → Option Nat) (x : Int32) : Option Nat := if x < 0 ∨ nI n ≤ x then none else f x.toNatClampNeg
theorem atN_nI {n k : Nat} {f : Nat → Option Nat} (hn : n < 2 ^ 31) (hk : k < n) : atN n f (nI k) = f k := by
  rw [atN, if_neg, nI_clamp (by omega)]
  intro q
  rcases q with q | q
  · exact nI_pos (by omega) q
  · exact nI_ge hk hn q
theorem atN_some {n a : Nat} {f : Nat → Option Nat} {x : Int32} (h : atN n f x = some a) : ∃ k, k < n ∧ x = nI k ∧ f k = some a := by
  unfold atN at h
  split at h
  · cases h
  · next q =>
    have h1 : ¬ x < 0 := fun z => q (Or.inl z)
    have h2 : ¬ nI n ≤ x := fun z => q (Or.inr z)
    obtain ⟨j, hj, rfl⟩ := nI_of h1
    rw [nI_clamp hj] at h
    refine ⟨j, ?_, rfl, h⟩
    rcases Nat.lt_or_ge j n with z | z
    · exact z
    · exact absurd (nI_le z hj) h2
end
section
def nwI : Nat → Int32
  | 0 => -1
  | k + 1 => nI k
theorem nwI_s {k : Nat} (h : 0 < k) : nI k - 1 = nwI k := by
  obtain ⟨j, rfl⟩ : ∃ j, k = j + 1 := ⟨k - 1, by omega⟩
  rw [← nI_1 j]
  exact Int32.add_sub_cancel _ _
theorem nwI_dec (k : Nat) : nI k + (-1) = nwI k := by
  cases k with
  | zero => decide
  | succ j =>
    rw [← nI_1 j, Int32.add_assoc]
    exact Int32.add_zero _
theorem nwI_dec1 (k : Nat) : nI k - 1 = nwI (k - 0) := by
  rw [Int32.sub_eq_add_neg]
  exact nwI_dec k
theorem x_isN {go : Option Nat} (h : ¬ ¬ bI go.isSome = 0) : ¬ go.isSome = true := fun q => by
  rw [q] at h
  exact h (by decide)
theorem x_isN9 {go : Option Nat} (h : bI go.isSome = 0) : go = none := by
  cases go with
  | none => rfl
  | some w => exact absurd h (by show ¬ bI true = 0; decide)
theorem x_isS {go : Option Nat} (h : ¬ bI go.isSome = 0) : ∃ w, go = some w := by
  cases go with
  | none => exact absurd rfl h
  | some w => exact ⟨w, rfl⟩
def bs (k : Nat) : Nat := k &&& (k - 1)
def wkF : Nat → Nat → Nat → Nat
  | 0, k, _ => k
  | n + 1, k, r => if r < k then wkF n (bs k) r else k
def wk (k r : Nat) : Nat := wkF 7 k r
def wkI (f k : Nat) : Int32 := nI (wk f (k - 1))
theorem bs_nI : ∀ k, k < 64 → nI k &&& (nI k - 1) = nI (bs k) ∧ bs k ≤ k - 1 := by
  have h : ∀ k : Fin 64, nI k.1 &&& (nI k.1 - 1) = nI (bs k.1) ∧ bs k.1 ≤ k.1 - 1 := by decide +kernel
  intro k hk
  exact h ⟨k, hk⟩
theorem wk_start {f : Nat} (hf : f < 64) : nI f &&& (nI f - 1) = wkI f (f - 0) := by
  have h : ∀ k : Fin 64, nI k.1 &&& (nI k.1 - 1) = wkI k.1 (k.1 - 0) := by decide +kernel
  exact h ⟨f, hf⟩
theorem wk_eq {f k : Nat} (q : wk f k = k) : nI k = wkI f (k + 1) := by
  rw [wkI, Nat.add_sub_cancel, q]
theorem wk_eqv {f k : Nat} (hf : f < 64) (hk : k < f) (h : nI k = wkI f (k + 1)) : wk f k = k := by
  have h : ∀ f k : Fin 64, nI k.1 = wkI f.1 (k.1 + 1) → wk f.1 k.1 = k.1 := by decide +kernel
  exact h ⟨f, hf⟩ ⟨k, by omega⟩ (by assumption)
theorem wk_no {f k : Nat} (hf : f < 64) (hk : k < f) (q : ¬ wk f k = k) : wkI f (k + 1) = wkI f k := by
  have h : ∀ f k : Fin 64, ¬ wk f.1 k.1 = k.1 → wkI f.1 (k.1 + 1) = wkI f.1 k.1 := by decide +kernel
  exact h ⟨f, hf⟩ ⟨k, by omega⟩ q
theorem wk_yes {f k : Nat} (hf : f < 64) (hk : k < f) (q : nI k = wkI f (k + 1)) : wkI f (k + 1) &&& (wkI f (k + 1) - 1) = wkI f k := by
  have h : ∀ f k : Fin 64, nI k.1 = wkI f.1 (k.1 + 1) → wkI f.1 (k.1 + 1) &&& (wkI f.1 (k.1 + 1) - 1) = wkI f.1 k.1 := by decide +kernel
  exact h ⟨f, hf⟩ ⟨k, by omega⟩ q
def cutA {α : Type} (f : Nat) (g : Nat → Option α) (k : Nat) : Nat → Option α := fun j => if k ≤ j ∧ j < f ∧ ¬ wk f j = j then none else g j
theorem cut_start {α : Type} {f : Nat} (g : Nat → Option α) : cutA f g (f - 0) = g := by
  funext j
  rw [cutA, if_neg (by omega)]
theorem cut_no {α : Type} {f m k : Nat} {g : Nat → Option α} (hk : m = k + 1) (hf : k < f) (h : ¬ wk f k = k) : va_up (cutA f g m) k none = cutA f g k := by
  funext j
  unfold va_up cutA
  split
  · next e => subst e; rw [if_pos ⟨Nat.le_refl _, hf, h⟩]
  · next e =>
    by_cases q : m ≤ j ∧ j < f ∧ ¬ wk f j = j
    · rw [if_pos q, if_pos ⟨by omega, q.2⟩]
    · rw [if_neg q, if_neg (fun z => q ⟨by omega, z.2⟩)]
theorem cut_yes {α : Type} {f k : Nat} {g : Nat → Option α} (h : wk f k = k) : cutA f g (k + 1) = cutA f g k := by
  funext j
  unfold cutA
  by_cases e : j = k
  · subst e
    rw [if_neg (by omega), if_neg (fun z => z.2.2 h)]
  · by_cases q : k + 1 ≤ j ∧ j < f ∧ ¬ wk f j = j
    · rw [if_pos q, if_pos ⟨by omega, q.2⟩]
    · rw [if_neg q, if_neg (fun z => q ⟨by omega, z.2⟩)]
def blk (n : Nat) : Nat := (n + 31) / 32
theorem blk_le (n : Nat) : blk n ≤ n := by
  unfold blk
  omega
def blO : Option (List Int32) → Nat
  | none => 0
  | some S => blk S.length
def cbk (pc : Nat → Option (List Int32)) : Nat → Nat
  | 0 => 0
  | n + 1 => cbk pc n + blO (pc n)
theorem rvP_n {rv : Nat → Option Rc} {j : Nat} (h : rv j = none) : rvP rv j = none := by rw [rvP, h]; rfl
theorem rvP_s {rv : Nat → Option Rc} {j : Nat} {r : Rc} (h : rv j = some r) : rvP rv j = some r.S := by rw [rvP, h]; rfl
theorem rvA_n {rv : Nat → Option Rc} {j : Nat} (h : rv j = none) : rvA rv j = none := by rw [rvA, h]; rfl
theorem rvA_s {rv : Nat → Option Rc} {j : Nat} {r : Rc} (h : rv j = some r) : rvA rv j = some r.a := by rw [rvA, h]; rfl
theorem cbk_n {pc : Nat → Option (List Int32)} {j : Nat} (h : pc j = none) : cbk pc (j + 1) = cbk pc j := by rw [cbk, h]; rfl
theorem cbk_s {pc : Nat → Option (List Int32)} {j : Nat} {S : List Int32} (h : pc j = some S) : cbk pc (j + 1) = cbk pc j + blk S.length := by rw [cbk, h]; rfl
theorem nI_m1 {k : Nat} (h : k < 2 ^ 31) : ¬ nI k = (-1) := fun q => by
  have h1 := nI_pos h
  rw [q] at h1
  exact h1 (by decide)
theorem vI_none {go : Option Nat} (hg : ∀ w, go = some w → w < 2 ^ 31) (h : vI go = (-1)) : go = none := by
  cases go with
  | none => rfl
  | some w => exact absurd h (nI_m1 (hg w rfl))
theorem vI_some {go : Option Nat} (h : ¬ vI go = (-1)) : ∃ w, go = some w := by
  cases go with
  | none => exact absurd rfl h
  | some w => exact ⟨w, rfl⟩
theorem vI_nlt {go : Option Nat} {n : Nat} (hg : ∀ w, go = some w → w < 2 ^ 31) (hle : ∀ w, go = some w → n ≤ w) (h1 : ¬ vI go = (-1)) : ¬ vI go < nI n := by
  obtain ⟨w, rfl⟩ := vI_some h1
  exact Int32.not_lt.mpr (nI_le (hle w rfl) (hg w rfl))
def frb (ln : Nat → Option Nat) : Nat → Nat
  | 0 => 0
  | j + 1 => frb ln j + blk ((ln j).getD 0)
theorem fr_z (ln : Nat → Option Nat) : 512 - nI (frb ln 0) = 512 := by
  show (512 : Int32) - nI 0 = 512
  decide
theorem fr_some {fl : Nat → Int32} {ln : Nat → Option Nat} {j : Nat} {x : Int32} (hj : j < 512) (hfl : fl j = vI (ln j)) (e : x = fl (Int32.toNatClampNeg (nI j))) (c : ¬ x ≤ 0) : ∃ v, ln j = some v ∧ 0 < v := by
  rw [nI_clamp (by omega), hfl] at e
  cases h : ln j with
  | none => rw [h] at e; exact absurd (by rw [e]; decide) c
  | some v =>
    refine ⟨v, rfl, ?_⟩
    rw [h] at e
    rcases Nat.eq_zero_or_pos v with z | z
    · rw [z] at e; exact absurd (by rw [e]; decide) c
    · exact z
theorem fr_1 {ln : Nat → Option Nat} {j v : Nat} (h : ln j = some v) : 512 - nI (frb ln j) - nI (blk v) = 512 - nI (frb ln (j + 1)) := by
  rw [frb, h, Option.getD_some, ← nI_add, Int32.sub_sub]
theorem fr_0 {fl : Nat → Int32} {ln : Nat → Option Nat} {j : Nat} {x : Int32} (hj : j < 512) (hfl : fl j = vI (ln j)) (hb : ∀ v, ln j = some v → v ≤ 16384) (e : x = fl (Int32.toNatClampNeg (nI j))) (c : x ≤ 0) : 512 - nI (frb ln j) - 0 = 512 - nI (frb ln (j + 1)) := by
  rw [nI_clamp (by omega), hfl] at e
  rw [Int32.sub_zero, frb]
  cases h : ln j with
  | none => rfl
  | some v =>
    rw [h] at e
    have h1 := hb v h
    have h2 : v = 0 := by
      rcases Nat.eq_zero_or_pos v with z | z
      · exact z
      · exact absurd (by rw [← show x = nI v from e]; exact c) (nI_nle z (by omega))
    rw [h2]
    rfl
theorem wkU {k r : Nat} (h : r < k) (hk : k < 64) : wk k r = wk (bs k) r := by
  have h : ∀ k r : Fin 64, r.1 < k.1 → wk k.1 r.1 = wk (bs k.1) r.1 := by decide +kernel
  exact h ⟨k, hk⟩ ⟨r, by omega⟩ (by assumption)
theorem wk_le {k r : Nat} (h : k ≤ r) : wk k r = k := by
  rw [wk, wkF, if_neg (by omega)]
theorem wk_lt (k r : Nat) (hk : k < 64) : wk k r < 64 := by
  have h0 : ∀ n k, k < 64 → wkF n k r < 64 := by
    intro n
    induction n with
    | zero => intro k h; exact h
    | succ n ih =>
      intro k h
      rw [wkF]
      split
      · have := (bs_nI k h).2
        exact ih _ (by omega)
      · exact h
  exact h0 7 k hk
def basR (rv : Nat → Option Rc) (n : Nat) : Option (List Int32) := if n = 0 then some [] else agn (rvP rv) (bs n)
end
section
def pcL (pq : Nat → Option (List Int32)) (q : Nat) : List Int32 := (pq q).getD []
def cat (pq : Nat → Option (List Int32)) (n : Nat) : List Int32 := fl (pcL pq) n
def pqF (pq : Nat → Option (List Int32)) (d : Nat) : Nat → Option (List Int32) := fun j => pq (64 * d + j)
def lnq (pq : Nat → Option (List Int32)) : Nat → Option Nat := fun q => (pq q).map List.length
theorem bgs_cat (pq : Nat → Option (List Int32)) : ∀ n, bgs (lnq pq) n = (cat pq n).length
  | 0 => rfl
  | n + 1 => by
    rw [bgs, bgs_cat pq n, cat, cat, fl, List.length_append, pcL, lnq]
    cases pq n <;> rfl
theorem cat_split {pq : Nat → Option (List Int32)} {q : Nat} : ∀ {n : Nat}, q < n → ∃ R, ∀ pq' : Nat → Option (List Int32), (∀ k, k ≠ q → pq' k = pq k) → cat pq' n = cat pq q ++ (pcL pq' q ++ R)
  | 0, h => absurd h (Nat.not_lt_zero q)
  | n + 1, h => by
    rcases Nat.lt_or_ge q n with z | z
    · obtain ⟨R, hR⟩ := cat_split z
      refine ⟨R ++ pcL pq n, fun pq' h' => ?_⟩
      have e : pcL pq' n = pcL pq n := by rw [pcL, pcL, h' n (by omega)]
      rw [cat, fl, e, ← cat, hR pq' h']
      simp only [List.append_assoc]
    · obtain rfl : q = n := by omega
      refine ⟨[], fun pq' h' => ?_⟩
      rw [cat, fl, List.append_nil, cat, fl_congr (f := pcL pq') (g := pcL pq) (fun j hj => by rw [pcL, pcL, h' j (by omega)])]
def rowOk (pq : Nat → Option (List Int32)) (fr : Nat → Int32) : Prop := sx (cat pq 512) 0 fr
theorem getD_app_l {A B : List Int32} {j : Nat} (h : j < A.length) : (A ++ B).getD j 0 = A.getD j 0 := by
  rw [List.getD_eq_getElem?_getD, List.getD_eq_getElem?_getD, List.getElem?_append_left h]
theorem getD_app_r {A B : List Int32} {j : Nat} : (A ++ B).getD (A.length + j) 0 = B.getD j 0 := by
  rw [List.getD_eq_getElem?_getD, List.getD_eq_getElem?_getD, List.getElem?_append_right (by omega), Nat.add_sub_cancel_left]
theorem getD_mem {L : List Int32} {j : Nat} (h : j < L.length) : L.getD j 0 ∈ L := by
  rw [List.getD_eq_getElem?_getD, List.getElem?_eq_getElem h]
  exact List.getElem_mem _
theorem row_piece {pq : Nat → Option (List Int32)} {fr : Nat → Int32} (h : rowOk pq fr) {q : Nat} {S : List Int32} (hq : q < 512) (hS : pq q = some S) : sx S (bgs (lnq pq) q) fr := by
  obtain ⟨R, hR⟩ := cat_split (pq := pq) hq
  have e := hR pq (fun _ _ => rfl)
  have eS : pcL pq q = S := by rw [pcL, hS]; rfl
  rw [eS] at e
  obtain ⟨h1, h2, h3⟩ := h
  rw [e] at h1 h2 h3
  rw [bgs_cat]
  simp only [List.length_append] at h1 h3
  refine ⟨fun j hj => ?_, fun b hb => h2 b (List.mem_append_right _ (List.mem_append_left _ hb)), by omega⟩
  have := h1 ((cat pq q).length + j) (by omega)
  rw [Nat.zero_add, getD_app_r, getD_app_l hj] at this
  exact this
theorem row_is {pq : Nat → Option (List Int32)} {fr : Nat → Int32} {A S R : List Int32} (e : cat pq 512 = A ++ (S ++ R)) (hA : ∀ j, j < A.length → fr j = A.getD j 0) (hS : ∀ j, j < S.length → fr (A.length + j) = S.getD j 0) (hR : ∀ j, j < R.length → fr (A.length + (S.length + j)) = R.getD j 0) (hB : ∀ b ∈ A ++ (S ++ R), isB b) (hl : A.length + (S.length + R.length) ≤ 16384) : rowOk pq fr := by
  unfold rowOk
  rw [e]
  refine ⟨fun j hj => ?_, hB, by simp only [List.length_append]; omega⟩
  simp only [List.length_append] at hj
  rw [Nat.zero_add]
  rcases Nat.lt_or_ge j A.length with z | z
  · rw [getD_app_l z]; exact hA j z
  · obtain ⟨i, rfl⟩ : ∃ i, j = A.length + i := ⟨j - A.length, by omega⟩
    rw [getD_app_r]
    rcases Nat.lt_or_ge i S.length with y | y
    · rw [getD_app_l y]; exact hS i y
    · obtain ⟨k, rfl⟩ : ∃ k, i = S.length + k := ⟨i - S.length, by omega⟩
      rw [getD_app_r]
      exact hR k (by omega)
theorem row_parts {pq : Nat → Option (List Int32)} {fr : Nat → Int32} (h : rowOk pq fr) {q : Nat} (hq : q < 512) : ∃ R, (∀ pq' : Nat → Option (List Int32), (∀ k, k ≠ q → pq' k = pq k) → cat pq' 512 = cat pq q ++ (pcL pq' q ++ R)) ∧ (∀ j, j < (cat pq q).length → fr j = (cat pq q).getD j 0) ∧ (∀ j, j < (pcL pq q).length → fr ((cat pq q).length + j) = (pcL pq q).getD j 0) ∧ (∀ j, j < R.length → fr ((cat pq q).length + ((pcL pq q).length + j)) = R.getD j 0) ∧ (∀ b ∈ cat pq q, isB b) ∧ (∀ b ∈ pcL pq q, isB b) ∧ (∀ b ∈ R, isB b) ∧ (cat pq q).length + ((pcL pq q).length + R.length) ≤ 16384 := by
  obtain ⟨R, hR⟩ := cat_split (pq := pq) hq
  have e := hR pq (fun _ _ => rfl)
  obtain ⟨h1, h2, h3⟩ := h
  rw [e] at h1 h2 h3
  simp only [List.length_append] at h1 h3
  refine ⟨R, hR, fun j hj => ?_, fun j hj => ?_, fun j hj => ?_, fun b hb => h2 b (List.mem_append_left _ hb), fun b hb => h2 b (List.mem_append_right _ (List.mem_append_left _ hb)), fun b hb => h2 b (List.mem_append_right _ (List.mem_append_right _ hb)), by omega⟩
  · have := h1 j (by omega)
    rw [Nat.zero_add, getD_app_l hj] at this
    exact this
  · have := h1 ((cat pq q).length + j) (by omega)
    rw [Nat.zero_add, getD_app_r, getD_app_l hj] at this
    exact this
  · have := h1 ((cat pq q).length + ((pcL pq q).length + j)) (by omega)
    rw [Nat.zero_add, getD_app_r, getD_app_r] at this
    exact this
theorem row_drop {pq : Nat → Option (List Int32)} {fr fr' : Nat → Int32} (h : rowOk pq fr) {q : Nat} (hq : q < 512) (h1 : ∀ j, j < bgs (lnq pq) q → fr' j = fr j) (h2 : ∀ j, bgs (lnq pq) q ≤ j → j + (pcL pq q).length < 16384 → fr' j = nbb (fr (j + (pcL pq q).length))) : rowOk (va_up pq q none) fr' := by
  obtain ⟨R, hR, a1, a2, a3, b1, b2, b3, hl⟩ := row_parts h hq
  rw [bgs_cat] at h1 h2
  have e := hR (va_up pq q none) (fun k hk => va_up_ne _ _ hk)
  have e0 : pcL (va_up pq q none) q = [] := by rw [pcL, va_up_self]; rfl
  rw [e0] at e
  refine row_is e (fun j hj => (h1 j hj).trans (a1 j hj)) (fun j hj => absurd hj (Nat.not_lt_zero j)) (fun j hj => ?_) (fun b hb => ?_) (by simp only [List.length_nil]; omega)
  · have e9 : (cat pq q).length + (([] : List Int32).length + j) + (pcL pq q).length = (cat pq q).length + ((pcL pq q).length + j) := by simp only [List.length_nil]; omega
    rw [h2 _ (by omega) (by rw [e9]; omega), e9, a3 j hj]
    exact b3 _ (getD_mem hj)
  · rcases List.mem_append.mp hb with z | z
    · exact b1 b z
    · exact b3 b z
theorem row_put {pq : Nat → Option (List Int32)} {fr fr' : Nat → Int32} (h : rowOk pq fr) {q : Nat} {S : List Int32} (hq : q < 512) (hn : pq q = none) (hSB : ∀ b ∈ S, isB b) (hlen : (cat pq 512).length + S.length ≤ 16384) (h1 : ∀ j, j < bgs (lnq pq) q → fr' j = fr j) (h2 : ∀ j, j < S.length → fr' (bgs (lnq pq) q + j) = S.getD j 0) (h3 : ∀ j, bgs (lnq pq) q + S.length ≤ j → j < 16384 → fr' j = nbb (fr (j - S.length))) : rowOk (va_up pq q (some S)) fr' := by
  obtain ⟨R, hR, a1, a2, a3, b1, b2, b3, hl⟩ := row_parts h hq
  have e1 := hR pq (fun _ _ => rfl)
  have e2 : pcL pq q = [] := by rw [pcL, hn]; rfl
  rw [e2] at a3 e1
  rw [e1] at hlen
  simp only [List.length_append, List.length_nil, List.nil_append, Nat.zero_add] at hlen a3
  rw [bgs_cat] at h1 h2 h3
  have e := hR (va_up pq q (some S)) (fun k hk => va_up_ne _ _ hk)
  have e0 : pcL (va_up pq q (some S)) q = S := by rw [pcL, va_up_self]; rfl
  rw [e0] at e
  refine row_is e (fun j hj => (h1 j hj).trans (a1 j hj)) (fun j hj => h2 j hj) (fun j hj => ?_) (fun b hb => ?_) (by omega)
  · have e9 : (cat pq q).length + (S.length + j) - S.length = (cat pq q).length + j := by omega
    rw [h3 _ (by omega) (by omega), e9, a3 j hj]
    exact b3 _ (getD_mem hj)
  · rcases List.mem_append.mp hb with z | z
    · exact b1 b z
    · rcases List.mem_append.mp z with y | y
      · exact hSB b y
      · exact b3 b y
theorem row_set {pq : Nat → Option (List Int32)} {fr : Nat → Int32} (h : rowOk pq fr) {q i : Nat} {S : List Int32} {b : Int32} (hq : q < 512) (hn : pq q = some S) (hi : i < S.length) (hb : isB b) : rowOk (va_up pq q (some (S.set i b))) (upd fr (bgs (lnq pq) q + i) b) := by
  obtain ⟨R, hR, a1, a2, a3, b1, b2, b3, hl⟩ := row_parts h hq
  have e2 : pcL pq q = S := by rw [pcL, hn]; rfl
  rw [e2] at a2 a3 b2 hl
  rw [bgs_cat]
  have e := hR (va_up pq q (some (S.set i b))) (fun k hk => va_up_ne _ _ hk)
  have e0 : pcL (va_up pq q (some (S.set i b))) q = S.set i b := by rw [pcL, va_up_self]; rfl
  rw [e0] at e
  have hu : ∀ k, k ≠ (cat pq q).length + i → upd fr ((cat pq q).length + i) b k = fr k := fun k hk => pk_un hk
  refine row_is e (fun j hj => (hu j (by omega)).trans (a1 j hj)) (fun j hj => ?_) (fun j hj => ?_) (fun x hx => ?_) (by simp only [List.length_set]; omega)
  · simp only [List.length_set] at hj
    by_cases z : j = i
    · subst z
      rw [pk_us, List.getD_eq_getElem?_getD, List.getElem?_set_self hj]
      rfl
    · rw [hu _ (by omega), a2 j hj, List.getD_eq_getElem?_getD, List.getD_eq_getElem?_getD, List.getElem?_set_ne (fun y => z y.symm)]
  · simp only [List.length_set]
    rw [hu _ (by omega)]
    exact a3 j hj
  · rcases List.mem_append.mp hx with z | z
    · exact b1 x z
    · rcases List.mem_append.mp z with y | y
      · rcases List.mem_or_eq_of_mem_set y with w | w
        · exact b2 x w
        · rw [w]; exact hb
      · exact b3 x y
theorem row_bd {pq : Nat → Option (List Int32)} {fr : Nat → Int32} (h : rowOk pq fr) : ∀ j v, j < 512 → lnq pq j = some v → v ≤ 16384 := by
  intro j v hj hv
  unfold lnq at hv
  cases e : pq j with
  | none => rw [e] at hv; cases hv
  | some S =>
    rw [e] at hv
    have := (row_piece h hj e).2.2
    cases hv
    omega
def shf (fr : Nat → Int32) (a n j : Nat) : Nat → Int32 := fun i => if a ≤ i ∧ i < j then nbb (fr (i + n)) else fr i
theorem shf_0 (fr : Nat → Int32) (a n : Nat) : shf fr a n a = fr := by
  funext i
  rw [shf, if_neg (by omega)]
theorem shf_1 {fr : Nat → Int32} {a n j : Nat} (h : a ≤ j) : upd (shf fr a n j) j (nbb (shf fr a n j (j + n))) = shf fr a n (j + 1) := by
  funext i
  have e : shf fr a n j (j + n) = fr (j + n) := by rw [shf, if_neg (by omega)]
  rw [e]
  by_cases z : i = j
  · subst z
    rw [pk_us, shf, if_pos ⟨h, by omega⟩]
  · rw [pk_un z, shf, shf]
    by_cases y : a ≤ i ∧ i < j
    · rw [if_pos y, if_pos ⟨y.1, by omega⟩]
    · rw [if_neg y, if_neg (by omega)]
theorem row_shf {pq : Nat → Option (List Int32)} {fr : Nat → Int32} (h : rowOk pq fr) {q n : Nat} (hq : q < 512) (e : (pcL pq q).length = n) : rowOk (va_up pq q none) (shf fr (bgs (lnq pq) q) n (16384 - n)) := by
  subst e
  refine row_drop h hq (fun j hj => ?_) (fun j h1 h2 => ?_)
  · rw [shf, if_neg (by omega)]
  · rw [shf, if_pos ⟨h1, by omega⟩]
theorem lnq_up {pq : Nat → Option (List Int32)} {fl : Nat → Int32} {q : Nat} (h : ∀ j, j < 512 → fl j = vI (lnq pq j)) : ∀ j, j < 512 → upd fl q (-1) j = vI (lnq (va_up pq q none) j) := by
  intro j hj
  by_cases z : j = q
  · subst z
    rw [pk_us, lnq, va_up_self]
    rfl
  · rw [pk_un z, h j hj, lnq, lnq, va_up_ne _ _ z]
def ndd (r f : Nat) : Nat → Bool
  | 0 => false
  | n + 1 => ndd r f n || decide (wk (f + n) r = r)
def clr (pq : Nat → Option (List Int32)) (d : Nat) (nd : Nat → Bool) (r0 : Nat) : Nat → Option (List Int32) := fun q => if 64 * d ≤ q ∧ q < 64 * d + r0 ∧ nd (q - 64 * d) = false then none else pq q
theorem clr_0 (pq : Nat → Option (List Int32)) (d : Nat) (nd : Nat → Bool) : clr pq d nd 0 = pq := by
  funext q
  rw [clr, if_neg (by omega)]
theorem clr_keep {pq : Nat → Option (List Int32)} {d r0 : Nat} {nd : Nat → Bool} (h : nd r0 = true) : clr pq d nd r0 = clr pq d nd (r0 + 1) := by
  funext q
  unfold clr
  by_cases z : q = 64 * d + r0
  · subst z
    rw [if_neg (by omega), if_neg (fun y => by rw [Nat.add_sub_cancel_left, h] at y; exact absurd y.2.2 (by decide))]
  · by_cases y : 64 * d ≤ q ∧ q < 64 * d + r0 ∧ nd (q - 64 * d) = false
    · rw [if_pos y, if_pos ⟨y.1, by omega, y.2.2⟩]
    · rw [if_neg y, if_neg (fun w => y ⟨w.1, by omega, w.2.2⟩)]
theorem clr_drop {pq : Nat → Option (List Int32)} {d r0 : Nat} {nd : Nat → Bool} (h : nd r0 = false) : va_up (clr pq d nd r0) (64 * d + r0) none = clr pq d nd (r0 + 1) := by
  funext q
  by_cases z : q = 64 * d + r0
  · subst z
    rw [va_up_self, clr, if_pos ⟨by omega, by omega, by rw [Nat.add_sub_cancel_left]; exact h⟩]
  · rw [va_up_ne _ _ z]
    unfold clr
    by_cases y : 64 * d ≤ q ∧ q < 64 * d + r0 ∧ nd (q - 64 * d) = false
    · rw [if_pos y, if_pos ⟨y.1, by omega, y.2.2⟩]
    · rw [if_neg y, if_neg (fun w => y ⟨w.1, by omega, w.2.2⟩)]
theorem clr_gone {pq : Nat → Option (List Int32)} {d r0 : Nat} {nd : Nat → Bool} (h : nd r0 = false) (hn : clr pq d nd r0 (64 * d + r0) = none) : clr pq d nd r0 = clr pq d nd (r0 + 1) := by
  rw [← clr_drop h]
  funext q
  by_cases z : q = 64 * d + r0
  · subst z
    rw [va_up_self, hn]
  · rw [va_up_ne _ _ z]
theorem pcL_le {pq : Nat → Option (List Int32)} {fr : Nat → Int32} (h : rowOk pq fr) {q : Nat} (hq : q < 512) : bgs (lnq pq) q + (pcL pq q).length ≤ 16384 := by
  obtain ⟨R, -, -, -, -, -, -, -, hl⟩ := row_parts h hq
  rw [bgs_cat]
  omega
theorem drp_1 {pq : Nat → Option (List Int32)} {fl : Nat → Int32} {q : Nat} {x y : Int32} (hq : q < 512) (hfl : ∀ j, j < 512 → fl j = vI (lnq pq j)) (e : x = fl (Int32.toNatClampNeg (nI q))) (c : ¬ x ≤ 0) (e2 : y = fl (Int32.toNatClampNeg (nI q))) : y = nI (pcL pq q).length := by
  rw [nI_clamp (by omega), hfl q hq] at e e2
  rw [e2, lnq, pcL]
  cases h : pq q with
  | none => rw [lnq, h] at e; exact absurd (by rw [e]; decide) c
  | some S => rfl
theorem drp_0 {pq : Nat → Option (List Int32)} {fl : Nat → Int32} {q : Nat} {x : Int32} (hq : q < 512) (hfl : ∀ j, j < 512 → fl j = vI (lnq pq j)) (hb : ∀ j v, j < 512 → lnq pq j = some v → v ≤ 16384) (e : x = fl (Int32.toNatClampNeg (nI q))) (c : x ≤ 0) : (0 : Int32) = nI (pcL pq q).length := by
  rw [nI_clamp (by omega), hfl q hq] at e
  rw [pcL]
  cases h : pq q with
  | none => rfl
  | some S =>
    have hl : lnq pq q = some S.length := by rw [lnq, h]; rfl
    rw [hl] at e
    have h1 := hb q _ hq hl
    have h2 : S.length = 0 := by
      rcases Nat.eq_zero_or_pos S.length with z | z
      · exact z
      · exact absurd (by rw [← show x = nI S.length from e]; exact c) (nI_nle z (by omega))
    show (0 : Int32) = nI S.length
    rw [h2]
    rfl
theorem bI_t {b : Bool} (h : ¬ bI b = 0) : b = true := by
  cases b with
  | true => rfl
  | false => exact absurd rfl h
theorem bI_f {b : Bool} (h : bI b = 0) : b = false := by
  cases b with
  | false => rfl
  | true => exact absurd h (by decide)
theorem ndd_o {r f j : Nat} (h : ¬ bI (ndd r f j) = 0) : bI (ndd r f (j + 1)) = 1 := by
  rw [ndd, bI_t h]
  rfl
theorem ndd_u {r f j : Nat} (h : wk (f + j) r = r) : bI (ndd r f (j + 1)) = 1 := by
  rw [ndd, decide_eq_true h, Bool.or_true]
  rfl
theorem ndd_z {r f j : Nat} (h : bI (ndd r f j) = 0) (h2 : ¬ wk (f + j) r = r) : bI (ndd r f (j + 1)) = 0 := by
  rw [ndd, bI_f h, decide_eq_false h2]
  rfl
theorem lnq_none {pq : Nat → Option (List Int32)} {fr fl : Nat → Int32} {q : Nat} (hr : rowOk pq fr) (hfl : ∀ j, j < 512 → fl j = vI (lnq pq j)) (hq : q < 512) (h : fl q = (-1)) : pq q = none := by
  rw [hfl q hq] at h
  cases e : pq q with
  | none => rfl
  | some S =>
    have hl : lnq pq q = some S.length := by rw [lnq, e]; rfl
    rw [hl] at h
    have := row_bd hr q _ hq hl
    exact absurd h (nI_m1 (by omega))
end
section
abbrev Rv : Type := (List Int32) × (Int32) × (Int32)
abbrev Rv.S (x : Rv) : List Int32 := x.1
abbrev Rv.au (x : Rv) : Int32 := x.2.1
abbrev Rv.sm (x : Rv) : Int32 := x.2.2
abbrev Dm : Type := (Nat) × (Nat) × (Nat → Option Rv)
abbrev Dm.first (x : Dm) : Nat := x.1
abbrev Dm.count (x : Dm) : Nat := x.2.1
abbrev Dm.rv (x : Dm) : Nat → Option Rv := x.2.2
abbrev Sg : Type := (Bool) × (Option Nat) × (List Int32) × (Nat) × (Nat → Option Dm) × (List Int32) × (Int32)
abbrev Sg.down (x : Sg) : Bool := x.1
abbrev Sg.go (x : Sg) : Option Nat := x.2.1
abbrev Sg.buf (x : Sg) : List Int32 := x.2.2.1
abbrev Sg.nd (x : Sg) : Nat := x.2.2.2.1
abbrev Sg.ds (x : Sg) : Nat → Option Dm := x.2.2.2.2.1
abbrev Sg.fet (x : Sg) : List Int32 := x.2.2.2.2.2.1
abbrev Sg.stp (x : Sg) : Int32 := x.2.2.2.2.2.2
abbrev sgB (x : Sg) (buf9 : List Int32) : Sg := (x.down, x.go, buf9, x.nd, x.ds, x.fet, x.stp)
abbrev sgG (x : Sg) (go9 : Option Nat) : Sg := (x.down, go9, x.buf, x.nd, x.ds, x.fet, x.stp)
abbrev sgD (x : Sg) (ds9 : Nat → Option Dm) : Sg := (x.down, x.go, x.buf, x.nd, ds9, x.fet, x.stp)
abbrev sgN (x : Sg) (nd9 : Nat) (ds9 : Nat → Option Dm) : Sg := (x.down, x.go, x.buf, nd9, ds9, x.fet, x.stp)
abbrev sgC (x : Sg) (ds9 : Nat → Option Dm) : Sg := (x.down, x.go, [], x.nd, ds9, x.fet, x.stp)
abbrev sgF (x : Sg) (fet9 : List Int32) (stp9 : Int32) : Sg := (x.down, x.go, x.buf, x.nd, x.ds, fet9, stp9)
abbrev sgS (x : Sg) : Sg := (false, none, x.buf, x.nd, x.ds, x.fet, x.stp)
abbrev off (x : Sg) : Sg := (true, none, [], x.nd, x.ds, x.fet, x.stp)
def dmP (d : Dm) : Nat → Option (List Int32) := fun j => (d.rv j).map Rv.S
def bas (d : Dm) : Option (List Int32) := if d.count = 0 then some [] else agn (dmP d) (bs d.count)
def dmB : Option Dm → Nat
  | none => 0
  | some d => cbk (dmP d) d.count
def usd (ds : Nat → Option Dm) : Nat → Nat
  | 0 => 0
  | n + 1 => usd ds n + dmB (ds n)
def dGet (ds : Nat → Option Dm) (a : Int32) : Option (Nat × Dm) := if a < 0 ∨ nI 8 ≤ a then none else (ds a.toNatClampNeg).map (fun d => (a.toNatClampNeg, d))
theorem dGet_some {ds : Nat → Option Dm} {a : Int32} {i : Nat} {d : Dm} (h : dGet ds a = some (i, d)) : i < 8 ∧ a = nI i ∧ ds i = some d := by
  unfold dGet at h
  split at h
  · cases h
  · next q =>
    have h1 : ¬ a < 0 := fun z => q (Or.inl z)
    have h2 : ¬ nI 8 ≤ a := fun z => q (Or.inr z)
    obtain ⟨j, hj, rfl⟩ := nI_of h1
    rw [nI_clamp hj] at h
    cases e : ds j with
    | none => rw [e] at h; cases h
    | some d' =>
      rw [e] at h
      cases h
      refine ⟨?_, rfl, e⟩
      rcases Nat.lt_or_ge i 8 with z | z
      · exact z
      · exact absurd (nI_le z hj) h2
theorem dGet_none {ds : Nat → Option Dm} {a : Int32} (h : dGet ds a = none) : a < 0 ∨ nI 8 ≤ a ∨ ds a.toNatClampNeg = none := by
  unfold dGet at h
  split at h
  · next q => exact q.elim Or.inl (fun z => Or.inr (Or.inl z))
  · cases e : ds a.toNatClampNeg with
    | none => exact Or.inr (Or.inr rfl)
    | some d => rw [e] at h; cases h
def spend (σ : Sg) (n : Nat) : Option Sg :=
  match σ.go with
  | none => some σ
  | some w => if w < n then none else some (sgG σ (some (w - n)))
def sFeed (σ : Sg) (a b c d e : Int32) : Sg × Int32 × Int32 :=
  if σ.down then (σ, 1, 0) else if 256 < σ.buf.length + 20 then (σ, 0, 0) else (sgB σ (σ.buf ++ (fb4 a ++ (fb4 b ++ (fb4 c ++ (fb4 d ++ fb4 e))))), 0, 1)
def sEnd (σ : Sg) (n : Int32) : Sg × Int32 × Int32 :=
  if σ.down then (σ, 1, 0) else if n < 0 ∨ nI σ.buf.length < n then (σ, 0, 0) else (sgB σ (σ.buf.take n.toNatClampNeg), 0, 1)
def sMake (σ : Sg) : Sg × Int32 × Int32 :=
  if σ.down then (σ, 1, 0) else if σ.nd = 8 then (σ, 0, -1) else
  match spend σ 1 with
  | none => (off σ, 1, 0)
  | some τ => (sgN τ (σ.nd + 1) (va_up σ.ds σ.nd (some ⟨0, 0, fun _ => none⟩)), 0, nI σ.nd)
def sCommit (σ : Sg) (a1 a2 : Int32) : Sg × Int32 × Int32 :=
  if σ.down then (σ, 1, 0) else
  match dGet σ.ds a1 with
  | none => (σ, 0, -1)
  | some (i, d) =>
    if d.count = 64 then (σ, 0, -1) else
    match bas d with
    | none => (σ, 0, -1)
    | some B =>
      if 512 < usd σ.ds 8 + blk (pce σ.buf B).length then (σ, 0, -1) else
      match spend σ (blk (pce σ.buf B).length + 1) with
      | none => (off σ, 1, 0)
      | some τ => (sgC τ (va_up σ.ds i (some ⟨d.first, d.count + 1, va_up d.rv d.count (some ⟨pce σ.buf B, a2, sumL σ.buf⟩)⟩)), 0, nI d.count)
def bct : Nat → Nat → Nat
  | 0, _ => 0
  | n + 1, k => if k = 0 then 0 else bct n (bs k) + 1
def sFetch (σ : Sg) (a1 a2 : Int32) : Sg × Int32 × Int32 :=
  if σ.down then (σ, 1, 0) else
  match dGet σ.ds a1 with
  | none => (σ, 0, -1)
  | some (_, d) =>
    if a2 < nI d.first ∨ nI d.count ≤ a2 then (σ, 0, -1) else
    match agn (dmP d) a2.toNatClampNeg with
    | none => (σ, 0, -2)
    | some Y => (sgF σ (Y) (nI (bct 6 a2.toNatClampNeg)), 0, nI Y.length)
def sOut (σ : Sg) (i : Int32) : Sg × Int32 × Int32 := if σ.down then (σ, 1, 0) else (σ, 0, bAt σ.fet i)
def sSteps (σ : Sg) : Sg × Int32 × Int32 := if σ.down then (σ, 1, 0) else (σ, 0, σ.stp)
def sTrim (σ : Sg) (a1 a2 : Int32) : Sg × Int32 × Int32 :=
  if σ.down then (σ, 1, 0) else
  match dGet σ.ds a1 with
  | none => (σ, 0, 0)
  | some (i, d) =>
    if a2 < nI d.first ∨ nI d.count ≤ a2 then (σ, 0, 0) else
    match spend σ 1 with
    | none => (off σ, 1, 0)
    | some τ => (sgD τ (va_up σ.ds i (some ⟨a2.toNatClampNeg, d.count, cutA a2.toNatClampNeg d.rv 0⟩)), 0, 1)
def sDrop (σ : Sg) (a1 : Int32) : Sg × Int32 × Int32 :=
  if σ.down then (σ, 1, 0) else
  match dGet σ.ds a1 with
  | none => (σ, 0, 0)
  | some (i, _) =>
    match spend σ 1 with
    | none => (off σ, 1, 0)
    | some τ => (sgD τ (va_up σ.ds i none), 0, 1)
def sAbout (σ : Sg) (a1 w : Int32) : Sg × Int32 × Int32 :=
  if σ.down then (σ, 3, 0) else
  match dGet σ.ds a1 with
  | none => (σ, 1, 0)
  | some (_, d) => if w = 0 then (σ, 0, nI d.first) else if w = 1 then (σ, 0, nwI d.count) else (σ, 2, 0)
def rGet (ds : Nat → Option Dm) (a1 a2 : Int32) : Option (Nat × Dm × Nat × Rv) :=
  match dGet ds a1 with
  | none => none
  | some (i, d) => if a2 < 0 ∨ nI d.count ≤ a2 then none else (d.rv a2.toNatClampNeg).map (fun r => (i, d, a2.toNatClampNeg, r))
def sByte (σ : Sg) (a1 a2 i : Int32) : Sg × Int32 × Int32 :=
  if σ.down then (σ, 1, 0) else
  match rGet σ.ds a1 a2 with
  | none => (σ, 0, -1)
  | some (_, _, _, r) => (σ, 0, bAt r.S i)
def sDamage (σ : Sg) (a1 a2 i mask : Int32) : Sg × Int32 × Int32 :=
  if σ.down then (σ, 1, 0) else
  match rGet σ.ds a1 a2 with
  | none => (σ, 0, 0)
  | some (k, d, j, r) => if i < 0 ∨ nI r.S.length ≤ i then (σ, 0, 0) else
    (sgD σ (va_up σ.ds k (some ⟨d.first, d.count, va_up d.rv j (some ⟨r.S.set i.toNatClampNeg (nbb (r.S.getD i.toNatClampNeg 0 ^^^ mask)), r.au, r.sm⟩)⟩)), 0, 1)
def snd6 (d : Dm) (r : Nat) : Bool :=
  match agn (dmP d) r, d.rv r with
  | some Y, some v => decide (sumL Y = v.sm)
  | _, _ => false
def vrf (d : Dm) : Nat → Nat → Int32
  | 0, _ => -1
  | n + 1, r => if snd6 d r then vrf d n (r + 1) else nI r
def sVerify (σ : Sg) (a1 : Int32) : Sg × Int32 × Int32 :=
  if σ.down then (σ, 1, 0) else
  match dGet σ.ds a1 with
  | none => (σ, 0, -1)
  | some (_, d) => (σ, 0, vrf d (d.count - d.first) d.first)
def cpb (x y : List Int32) : Nat := min (cpl x.reverse y.reverse) (min x.length y.length - cpl x y)
def sCommon (σ : Sg) (a1 one two w : Int32) : Sg × Int32 × Int32 :=
  if σ.down then (σ, 1, 0) else
  match dGet σ.ds a1 with
  | none => (σ, 0, -1)
  | some (_, d) =>
    if (one < nI d.first ∨ nI d.count ≤ one) ∨ (two < nI d.first ∨ nI d.count ≤ two) ∨ ¬ (w = 0 ∨ w = 1) then (σ, 0, -1) else
    match agn (dmP d) one.toNatClampNeg, agn (dmP d) two.toNatClampNeg with
    | some X, some Y => (σ, 0, nI (if w = 0 then cpl X Y else cpb X Y))
    | _, _ => (σ, 0, -2)
def sFree (σ : Sg) : Sg × Int32 × Int32 := if σ.down then (σ, 1, 0) else (σ, 0, nI (512 - usd σ.ds 8))
def sCut (σ : Sg) (n : Int32) : Sg × Int32 × Int32 := if σ.down then (σ, 1, 0) else if n < 0 then (σ, 0, 0) else (sgG σ (some n.toNatClampNeg), 0, 1)
def sStart (σ : Sg) : Sg × Int32 × Int32 := if σ.down then (sgS σ, 0, 1) else (σ, 0, 0)
def sIsDown (σ : Sg) : Sg × Int32 × Int32 := (σ, 0, bI σ.down)
def dmOk (d : Dm) : Prop := d.first ≤ d.count ∧ d.count ≤ 64 ∧ (∀ j, d.first ≤ j → j < d.count → ∃ r, d.rv j = some r) ∧ ∀ j r, d.rv j = some r → j < d.count ∧ r.S.length ≤ 512 ∧ ∀ b ∈ r.S, isB b
def sOk (σ : Sg) : Prop := (∀ w, σ.go = some w → w < 2 ^ 31) ∧ (σ.down = true → σ.go = none) ∧ (σ.buf.length ≤ 256 ∧ ∀ b ∈ σ.buf, isB b) ∧ (σ.nd ≤ 8) ∧ (∀ i d, σ.ds i = some d → i < σ.nd ∧ dmOk d) ∧ (usd σ.ds 8 ≤ 512) ∧ (σ.fet.length ≤ 256 ∧ ∀ b ∈ σ.fet, isB b)
theorem sOk.go {σ : Sg} (h : sOk σ) : ∀ w, σ.go = some w → w < 2 ^ 31 := h.1
theorem sOk.dn {σ : Sg} (h : sOk σ) : σ.down = true → σ.go = none := h.2.1
theorem sOk.buf {σ : Sg} (h : sOk σ) : σ.buf.length ≤ 256 ∧ ∀ b ∈ σ.buf, isB b := h.2.2.1
theorem sOk.nd {σ : Sg} (h : sOk σ) : σ.nd ≤ 8 := h.2.2.2.1
theorem sOk.ds {σ : Sg} (h : sOk σ) : ∀ i d, σ.ds i = some d → i < σ.nd ∧ dmOk d := h.2.2.2.2.1
theorem sOk.us {σ : Sg} (h : sOk σ) : usd σ.ds 8 ≤ 512 := h.2.2.2.2.2.1
theorem sOk.fet {σ : Sg} (h : sOk σ) : σ.fet.length ≤ 256 ∧ ∀ b ∈ σ.fet, isB b := h.2.2.2.2.2.2
theorem sOk.mk {σ : Sg} (h0 : ∀ w, σ.go = some w → w < 2 ^ 31) (h1 : σ.down = true → σ.go = none) (h2 : σ.buf.length ≤ 256 ∧ ∀ b ∈ σ.buf, isB b) (h3 : σ.nd ≤ 8) (h4 : ∀ i d, σ.ds i = some d → i < σ.nd ∧ dmOk d) (h5 : usd σ.ds 8 ≤ 512) (h6 : σ.fet.length ≤ 256 ∧ ∀ b ∈ σ.fet, isB b) : sOk σ := ⟨h0, h1, h2, h3, h4, h5, h6⟩
end
section
set_option maxHeartbeats 4000000 in
set_option maxRecDepth 100000 in
theorem g_goAfter (l : Launch) (dC : Nat → ClassId) (dI : Nat → Nat → Nat) (sz : Nat) (h0 : Nat) (i_down : Int32) (i_going : Int32) (i_writesLeft : Int32) (a1 : Int32)  : Met l y_P_goAfter k_P_goAfter ({ frames := 0, cells := 0, slots := 0, locals := 0 } : Room) (va_Pc [.ref h0, .int a1] (pc_E (dC, dI) [(h0, .inr (4, [.int i_down, .int i_going, .int i_writesLeft]))] [] sz)) (va_Qv (fun (_ : Unit) => True) (fun (_ : Unit) t => at_E (dC, dI) (va_A [(h0, .inr (4, [.int i_down, .int i_going, .int i_writesLeft]))] sz) [(h0, .inr (4, [.int i_down, .int 1, .int a1]))] [] t) (va_A [(h0, .inr (4, [.int i_down, .int i_going, .int i_writesLeft]))] sz)) 0 0 (va_A [(h0, .inr (4, [.int i_down, .int i_going, .int i_writesLeft]))] sz) := by
  refine Met.ofW (cc := prog_5_method_2_code) (maxL := 2) (ret := none) (by decide) rfl ?_
  intro p e s m args below meth c s₁ B hml hv
  obtain ⟨rfl, hsz, hP, hK, hD0, hN⟩ := hv
  have hx := B.exec
  have hb := B.bytes
  have hr := B.returns
  have hts := atoms_spec (ws := k_P_goAfter) B.pre
  have hw0 : ∀ w ∈ w0, w.before _ s = true := fun w h => hts w (List.mem_cons_of_mem _ h)
  have hown : s.vm.findClass R_P = some m.cls := findClass_of_methodNamed B.named
  have hlocks := B.notSynchronized
  subst hsz
  have hD := hD0.self (sz := s.heap.size)
  generalize hAe : va_A [(h0, .inr (4, [.int i_down, .int i_going, .int i_writesLeft]))] s.heap.size = A at hD ⊢
  have hA : ∀ q : Nat, s.heap.size ≤ q → A q := fun q h => by rw [← hAe]; exact Or.inr h
  have hS : va_S A s.heap s.heap [] := va_S.rf
  have hP : va_P (dC, dI) vwCl [(h0, .inr (4, [.int i_down, .int i_going, .int i_writesLeft]))] s.heap := hP
  have hl := lv_entry ([.ref h0, .int a1]) (n := 2) (Nat.le_of_ble_eq_true rfl)
  rw [lg_entry_eq]
  generalize (lg_sl ([.ref h0, .int a1]) ++ List.replicate (2 - (lg_sl ([.ref h0, .int a1])).length) Slot.unset).toArray = ls at hl ⊢
  have hl : lv_has ls 2 [(0, .ref h0), (1, .int a1)] := hl
  refine lv_aload_n hx hb d_P_goAfter_0 rfl (lv_at hl 0 rfl) ?_
  refine lv_iconst (v := 1) hx hb d_P_goAfter_1 (by decide) ?_
  refine va_put (D := (dC, dI)) (ci := 4) (v := .int 1) (ty := .boolean) (C := R_P) (T := F_P) (N := 3) hx hb hw0 in_P ft_P tk_P nk_P hown hK hP hD hS 0 rfl rfl 1 (by decide) (hw0 (.fieldLink R_P 13 "TextKeeper$Power" "going" "Z") wm_139) (fun _ h9 => h9) rfl (by decide +kernel) rfl rfl (Nat.le_of_ble_eq_true rfl) d_P_goAfter_2 (fun H locs hP hD hS => ?_)
  replace hP : va_P (dC, dI) vwCl [(h0, .inr (4, [.int i_down, .int 1, .int i_writesLeft]))] H := hP
  replace hD : va_D A [(h0, .inr (4, [.int i_down, .int 1, .int i_writesLeft]))] := hD
  refine lv_aload_n hx hb d_P_goAfter_5 rfl (lv_at hl 0 rfl) ?_
  refine lv_iload_n hx hb d_P_goAfter_6 rfl (lv_at hl 1 rfl) ?_
  refine va_put (D := (dC, dI)) (ci := 4) (v := .int a1) (ty := .int) (C := R_P) (T := F_P) (N := 3) hx hb hw0 in_P ft_P tk_P nk_P hown hK hP hD hS 0 rfl rfl 2 (by decide) (hw0 (.fieldLink R_P 16 "TextKeeper$Power" "writesLeft" "I") wm_140) (fun _ h9 => h9) rfl (by decide +kernel) rfl rfl (Nat.le_of_ble_eq_true rfl) d_P_goAfter_7 (fun H locs hP hD hS => ?_)
  replace hP : va_P (dC, dI) vwCl [(h0, .inr (4, [.int i_down, .int 1, .int a1]))] H := hP
  replace hD : va_D A [(h0, .inr (4, [.int i_down, .int 1, .int a1]))] := hD
  have hP9 := hP.sub (ws' := [(h0, .inr (4, [.int i_down, .int 1, .int a1]))]) [0] rfl
  have hD9 := hD.sub (ws' := [(h0, .inr (4, [.int i_down, .int 1, .int a1]))]) [0] (by decide) rfl
  have hK9 := hK.sub (tys' := []) [] rfl
  exact W.vret hx hb hr (fun t ht hW => ⟨⟨(), rfl, trivial, by rw [ht]; exact hP9, va_K.moved hW.alike hK9, hD9⟩, hS.F ht⟩) hS.2.2 d_P_goAfter_10
set_option maxHeartbeats 4000000 in
set_option maxRecDepth 100000 in
theorem g_comeBack (l : Launch) (dC : Nat → ClassId) (dI : Nat → Nat → Nat) (sz : Nat) (h0 : Nat) (i_down : Int32) (i_going : Int32) (i_writesLeft : Int32)  : Met l y_P_comeBack k_P_comeBack ({ frames := 0, cells := 0, slots := 0, locals := 0 } : Room) (va_Pc [.ref h0] (pc_E (dC, dI) [(h0, .inr (4, [.int i_down, .int i_going, .int i_writesLeft]))] [] sz)) (va_Qv (fun (_ : Unit) => True) (fun (_ : Unit) t => at_E (dC, dI) (va_A [(h0, .inr (4, [.int i_down, .int i_going, .int i_writesLeft]))] sz) [(h0, .inr (4, [.int 0, .int 0, .int i_writesLeft]))] [] t) (va_A [(h0, .inr (4, [.int i_down, .int i_going, .int i_writesLeft]))] sz)) 0 0 (va_A [(h0, .inr (4, [.int i_down, .int i_going, .int i_writesLeft]))] sz) := by
  refine Met.ofW (cc := prog_5_method_3_code) (maxL := 1) (ret := none) (by decide) rfl ?_
  intro p e s m args below meth c s₁ B hml hv
  obtain ⟨rfl, hsz, hP, hK, hD0, hN⟩ := hv
  have hx := B.exec
  have hb := B.bytes
  have hr := B.returns
  have hts := atoms_spec (ws := k_P_comeBack) B.pre
  have hw0 : ∀ w ∈ w0, w.before _ s = true := fun w h => hts w (List.mem_cons_of_mem _ h)
  have hown : s.vm.findClass R_P = some m.cls := findClass_of_methodNamed B.named
  have hlocks := B.notSynchronized
  subst hsz
  have hD := hD0.self (sz := s.heap.size)
  generalize hAe : va_A [(h0, .inr (4, [.int i_down, .int i_going, .int i_writesLeft]))] s.heap.size = A at hD ⊢
  have hA : ∀ q : Nat, s.heap.size ≤ q → A q := fun q h => by rw [← hAe]; exact Or.inr h
  have hS : va_S A s.heap s.heap [] := va_S.rf
  have hP : va_P (dC, dI) vwCl [(h0, .inr (4, [.int i_down, .int i_going, .int i_writesLeft]))] s.heap := hP
  have hl := lv_entry ([.ref h0]) (n := 1) (Nat.le_of_ble_eq_true rfl)
  rw [lg_entry_eq]
  generalize (lg_sl ([.ref h0]) ++ List.replicate (1 - (lg_sl ([.ref h0])).length) Slot.unset).toArray = ls at hl ⊢
  have hl : lv_has ls 1 [(0, .ref h0)] := hl
  refine lv_aload_n hx hb d_P_comeBack_0 rfl (lv_at hl 0 rfl) ?_
  refine lv_iconst (v := 0) hx hb d_P_comeBack_1 (by decide) ?_
  refine va_put (D := (dC, dI)) (ci := 4) (v := .int 0) (ty := .boolean) (C := R_P) (T := F_P) (N := 3) hx hb hw0 in_P ft_P tk_P nk_P hown hK hP hD hS 0 rfl rfl 0 (by decide) (hw0 (.fieldLink R_P 7 "TextKeeper$Power" "down" "Z") wm_138) (fun _ h9 => h9) rfl (by decide +kernel) rfl rfl (Nat.le_of_ble_eq_true rfl) d_P_comeBack_2 (fun H locs hP hD hS => ?_)
  replace hP : va_P (dC, dI) vwCl [(h0, .inr (4, [.int 0, .int i_going, .int i_writesLeft]))] H := hP
  replace hD : va_D A [(h0, .inr (4, [.int 0, .int i_going, .int i_writesLeft]))] := hD
  refine lv_aload_n hx hb d_P_comeBack_5 rfl (lv_at hl 0 rfl) ?_
  refine lv_iconst (v := 0) hx hb d_P_comeBack_6 (by decide) ?_
  refine va_put (D := (dC, dI)) (ci := 4) (v := .int 0) (ty := .boolean) (C := R_P) (T := F_P) (N := 3) hx hb hw0 in_P ft_P tk_P nk_P hown hK hP hD hS 0 rfl rfl 1 (by decide) (hw0 (.fieldLink R_P 13 "TextKeeper$Power" "going" "Z") wm_139) (fun _ h9 => h9) rfl (by decide +kernel) rfl rfl (Nat.le_of_ble_eq_true rfl) d_P_comeBack_7 (fun H locs hP hD hS => ?_)
  replace hP : va_P (dC, dI) vwCl [(h0, .inr (4, [.int 0, .int 0, .int i_writesLeft]))] H := hP
  replace hD : va_D A [(h0, .inr (4, [.int 0, .int 0, .int i_writesLeft]))] := hD
  have hP9 := hP.sub (ws' := [(h0, .inr (4, [.int 0, .int 0, .int i_writesLeft]))]) [0] rfl
  have hD9 := hD.sub (ws' := [(h0, .inr (4, [.int 0, .int 0, .int i_writesLeft]))]) [0] (by decide) rfl
  have hK9 := hK.sub (tys' := []) [] rfl
  exact W.vret hx hb hr (fun t ht hW => ⟨⟨(), rfl, trivial, by rw [ht]; exact hP9, va_K.moved hW.alike hK9, hD9⟩, hS.F ht⟩) hS.2.2 d_P_comeBack_10
set_option maxHeartbeats 4000000 in
set_option maxRecDepth 100000 in
theorem g_lasts_T (l : Launch) (dC : Nat → ClassId) (dI : Nat → Nat → Nat) (sz : Nat) (h0 : Nat) (go : Option Nat) (wl : Int32) (n : Nat) (hg : ∀ w, go = some w → wl = nI w ∧ w < 2 ^ 31) (hn : n < 2 ^ 30) (hle : ∀ w, go = some w → n ≤ w) : Met l y_P_lastsFor k_P_lastsFor ({ frames := 0, cells := 0, slots := 0, locals := 0 } : Room) (va_Pc [.ref h0, .int (nI n)] (pc_E (dC, dI) [(h0, .inr (4, [.int 0, .int (bI go.isSome), .int wl]))] [] sz)) (va_Qi (fun (r : Int32) (_ : Unit) => r = 1) (fun (_ : Unit) t => ∃ (wl2 : Int32), (∀ w, go = some w → wl2 = nI (w - n)) ∧ at_E (dC, dI) (va_A [(h0, .inr (4, [.int 0, .int (bI go.isSome), .int wl]))] sz) [(h0, .inr (4, [.int 0, .int (bI go.isSome), .int wl2]))] [] t) (va_A [(h0, .inr (4, [.int 0, .int (bI go.isSome), .int wl]))] sz)) 0 0 (va_A [(h0, .inr (4, [.int 0, .int (bI go.isSome), .int wl]))] sz) := by
  refine Met.ofW (cc := prog_5_method_4_code) (maxL := 2) (ret := (some .boolean)) (by decide) rfl ?_
  intro p e s m args below meth c s₁ B hml hv
  obtain ⟨rfl, hsz, hP, hK, hD0, hN⟩ := hv
  have hx := B.exec
  have hb := B.bytes
  have hr := B.returns
  have hts := atoms_spec (ws := k_P_lastsFor) B.pre
  have hw0 : ∀ w ∈ w0, w.before _ s = true := fun w h => hts w (List.mem_cons_of_mem _ h)
  have hown : s.vm.findClass R_P = some m.cls := findClass_of_methodNamed B.named
  have hlocks := B.notSynchronized
  subst hsz
  have hD := hD0.self (sz := s.heap.size)
  generalize hAe : va_A [(h0, .inr (4, [.int 0, .int (bI go.isSome), .int wl]))] s.heap.size = A at hD ⊢
  have hA : ∀ q : Nat, s.heap.size ≤ q → A q := fun q h => by rw [← hAe]; exact Or.inr h
  have hS : va_S A s.heap s.heap [] := va_S.rf
  have hP : va_P (dC, dI) vwCl [(h0, .inr (4, [.int 0, .int (bI go.isSome), .int wl]))] s.heap := hP
  have hl := lv_entry ([.ref h0, .int (nI n)]) (n := 2) (Nat.le_of_ble_eq_true rfl)
  rw [lg_entry_eq]
  generalize (lg_sl ([.ref h0, .int (nI n)]) ++ List.replicate (2 - (lg_sl ([.ref h0, .int (nI n)])).length) Slot.unset).toArray = ls at hl ⊢
  have hl : lv_has ls 2 [(0, .ref h0), (1, .int (nI n))] := hl
  refine lv_aload_n hx hb d_P_lastsFor_0 rfl (lv_at hl 0 rfl) ?_
  refine va_get (D := (dC, dI)) (ci := 4) (v := .int (bI go.isSome)) (C := R_P) (T := F_P) (N := 3) hx hb hw0 in_P hown hK hP 0 rfl rfl 1 (by decide) (hw0 (.fieldLink R_P 13 "TextKeeper$Power" "going" "Z") wm_139) (fun _ h9 => h9) rfl d_P_lastsFor_1 ?_
  refine lv_if_ne (tgt := 9) hx hb d_P_lastsFor_4 (by decide) (fun c_1 => ?_) (fun c_1 => ?_)
  · obtain ⟨w9, hw9⟩ := x_isS c_1
    refine lv_aload_n hx hb d_P_lastsFor_9 rfl (lv_at hl 0 rfl) ?_
    refine va_get (D := (dC, dI)) (ci := 4) (v := .int wl) (C := R_P) (T := F_P) (N := 3) hx hb hw0 in_P hown hK hP 0 rfl rfl 2 (by decide) (hw0 (.fieldLink R_P 16 "TextKeeper$Power" "writesLeft" "I") wm_140) (fun _ h9 => h9) rfl d_P_lastsFor_10 ?_
    refine lv_iload_n hx hb d_P_lastsFor_13 rfl (lv_at hl 1 rfl) ?_
    refine lv_icmp_ge (tgt := 24) hx hb d_P_lastsFor_14 (by decide) (fun c_2 => ?_) (fun c_2 => absurd (by rw [(hg w9 hw9).1]; exact nI_le (hle w9 hw9) (hg w9 hw9).2) c_2)
    refine lv_aload_n hx hb d_P_lastsFor_24 rfl (lv_at hl 0 rfl) ?_
    refine lv_dup hx hb d_P_lastsFor_25 rfl ?_
    refine va_get (D := (dC, dI)) (ci := 4) (v := .int wl) (C := R_P) (T := F_P) (N := 3) hx hb hw0 in_P hown hK hP 0 rfl rfl 2 (by decide) (hw0 (.fieldLink R_P 16 "TextKeeper$Power" "writesLeft" "I") wm_140) (fun _ h9 => h9) rfl d_P_lastsFor_26 ?_
    refine lv_iload_n hx hb d_P_lastsFor_29 rfl (lv_at hl 1 rfl) ?_
    refine lv_isub hx hb d_P_lastsFor_30 ?_
    refine lv_topi (fun x_3 ex_3 => ?_)
    refine va_put (D := (dC, dI)) (ci := 4) (v := .int x_3) (ty := .int) (C := R_P) (T := F_P) (N := 3) hx hb hw0 in_P ft_P tk_P nk_P hown hK hP hD hS 0 rfl rfl 2 (by decide) (hw0 (.fieldLink R_P 16 "TextKeeper$Power" "writesLeft" "I") wm_140) (fun _ h9 => h9) rfl (by decide +kernel) rfl rfl (Nat.le_of_ble_eq_true rfl) d_P_lastsFor_31 (fun H locs hP hD hS => ?_)
    replace hP : va_P (dC, dI) vwCl [(h0, .inr (4, [.int 0, .int (bI go.isSome), .int x_3]))] H := hP
    replace hD : va_D A [(h0, .inr (4, [.int 0, .int (bI go.isSome), .int x_3]))] := hD
    refine lv_iconst (v := 1) hx hb d_P_lastsFor_34 (by decide) ?_
    have hP9 := hP.sub (ws' := [(h0, .inr (4, [.int 0, .int (bI go.isSome), .int x_3]))]) [0] rfl
    have hD9 := hD.sub (ws' := [(h0, .inr (4, [.int 0, .int (bI go.isSome), .int x_3]))]) [0] (by decide) rfl
    have hK9 := hK.sub (tys' := []) [] rfl
    exact W.zret (v := 1) (ty := .boolean) hx hb hr rfl (fun t ht hW => ⟨⟨1, (), rfl, rfl, x_3, (fun w e9 => by rw [ex_3, (hg w e9).1]; exact pk_sub (hle w e9)), by rw [ht]; exact hP9, va_K.moved hW.alike hK9, hD9⟩, hS.F ht⟩) hS.2.2 d_P_lastsFor_35
  · refine lv_iconst (v := 1) hx hb d_P_lastsFor_7 (by decide) ?_
    have hP9 := hP.sub (ws' := [(h0, .inr (4, [.int 0, .int (bI go.isSome), .int wl]))]) [0] rfl
    have hD9 := hD.sub (ws' := [(h0, .inr (4, [.int 0, .int (bI go.isSome), .int wl]))]) [0] (by decide) rfl
    have hK9 := hK.sub (tys' := []) [] rfl
    exact W.zret (v := 1) (ty := .boolean) hx hb hr rfl (fun t ht hW => ⟨⟨1, (), rfl, rfl, wl, (fun w e9 => by rw [x_isN9 c_1] at e9; cases e9), by rw [ht]; exact hP9, va_K.moved hW.alike hK9, hD9⟩, hS.F ht⟩) hS.2.2 d_P_lastsFor_8
set_option maxHeartbeats 4000000 in
set_option maxRecDepth 100000 in
theorem g_lasts_F (l : Launch) (dC : Nat → ClassId) (dI : Nat → Nat → Nat) (sz : Nat) (h0 : Nat) (go : Option Nat) (wl : Int32) (n : Nat) (w9 : Nat) (hg : ∀ w, go = some w → wl = nI w ∧ w < 2 ^ 31) (hn : n < 2 ^ 30) (hw9 : go = some w9) (hlt : w9 < n) : Met l y_P_lastsFor k_P_lastsFor ({ frames := 0, cells := 0, slots := 0, locals := 0 } : Room) (va_Pc [.ref h0, .int (nI n)] (pc_E (dC, dI) [(h0, .inr (4, [.int 0, .int (bI go.isSome), .int wl]))] [] sz)) (va_Qi (fun (r : Int32) (_ : Unit) => r = 0) (fun (_ : Unit) t => at_E (dC, dI) (va_A [(h0, .inr (4, [.int 0, .int (bI go.isSome), .int wl]))] sz) [(h0, .inr (4, [.int 1, .int (bI go.isSome), .int wl]))] [] t) (va_A [(h0, .inr (4, [.int 0, .int (bI go.isSome), .int wl]))] sz)) 0 0 (va_A [(h0, .inr (4, [.int 0, .int (bI go.isSome), .int wl]))] sz) := by
  refine Met.ofW (cc := prog_5_method_4_code) (maxL := 2) (ret := (some .boolean)) (by decide) rfl ?_
  intro p e s m args below meth c s₁ B hml hv
  obtain ⟨rfl, hsz, hP, hK, hD0, hN⟩ := hv
  have hx := B.exec
  have hb := B.bytes
  have hr := B.returns
  have hts := atoms_spec (ws := k_P_lastsFor) B.pre
  have hw0 : ∀ w ∈ w0, w.before _ s = true := fun w h => hts w (List.mem_cons_of_mem _ h)
  have hown : s.vm.findClass R_P = some m.cls := findClass_of_methodNamed B.named
  have hlocks := B.notSynchronized
  subst hsz
  have hD := hD0.self (sz := s.heap.size)
  generalize hAe : va_A [(h0, .inr (4, [.int 0, .int (bI go.isSome), .int wl]))] s.heap.size = A at hD ⊢
  have hA : ∀ q : Nat, s.heap.size ≤ q → A q := fun q h => by rw [← hAe]; exact Or.inr h
  have hS : va_S A s.heap s.heap [] := va_S.rf
  have hP : va_P (dC, dI) vwCl [(h0, .inr (4, [.int 0, .int (bI go.isSome), .int wl]))] s.heap := hP
  have hl := lv_entry ([.ref h0, .int (nI n)]) (n := 2) (Nat.le_of_ble_eq_true rfl)
  rw [lg_entry_eq]
  generalize (lg_sl ([.ref h0, .int (nI n)]) ++ List.replicate (2 - (lg_sl ([.ref h0, .int (nI n)])).length) Slot.unset).toArray = ls at hl ⊢
  have hl : lv_has ls 2 [(0, .ref h0), (1, .int (nI n))] := hl
  refine lv_aload_n hx hb d_P_lastsFor_0 rfl (lv_at hl 0 rfl) ?_
  refine va_get (D := (dC, dI)) (ci := 4) (v := .int (bI go.isSome)) (C := R_P) (T := F_P) (N := 3) hx hb hw0 in_P hown hK hP 0 rfl rfl 1 (by decide) (hw0 (.fieldLink R_P 13 "TextKeeper$Power" "going" "Z") wm_139) (fun _ h9 => h9) rfl d_P_lastsFor_1 ?_
  refine lv_if_ne (tgt := 9) hx hb d_P_lastsFor_4 (by decide) (fun c_1 => ?_) (fun c_1 => absurd hw9 (by rw [x_isN9 c_1]; exact fun q => by cases q))
  refine lv_aload_n hx hb d_P_lastsFor_9 rfl (lv_at hl 0 rfl) ?_
  refine va_get (D := (dC, dI)) (ci := 4) (v := .int wl) (C := R_P) (T := F_P) (N := 3) hx hb hw0 in_P hown hK hP 0 rfl rfl 2 (by decide) (hw0 (.fieldLink R_P 16 "TextKeeper$Power" "writesLeft" "I") wm_140) (fun _ h9 => h9) rfl d_P_lastsFor_10 ?_
  refine lv_iload_n hx hb d_P_lastsFor_13 rfl (lv_at hl 1 rfl) ?_
  refine lv_icmp_ge (tgt := 24) hx hb d_P_lastsFor_14 (by decide) (fun c_2 => absurd c_2 (by rw [(hg w9 hw9).1]; exact nI_ge hlt (by omega))) (fun c_2 => ?_)
  refine lv_aload_n hx hb d_P_lastsFor_17 rfl (lv_at hl 0 rfl) ?_
  refine lv_iconst (v := 1) hx hb d_P_lastsFor_18 (by decide) ?_
  refine va_put (D := (dC, dI)) (ci := 4) (v := .int 1) (ty := .boolean) (C := R_P) (T := F_P) (N := 3) hx hb hw0 in_P ft_P tk_P nk_P hown hK hP hD hS 0 rfl rfl 0 (by decide) (hw0 (.fieldLink R_P 7 "TextKeeper$Power" "down" "Z") wm_138) (fun _ h9 => h9) rfl (by decide +kernel) rfl rfl (Nat.le_of_ble_eq_true rfl) d_P_lastsFor_19 (fun H locs hP hD hS => ?_)
  replace hP : va_P (dC, dI) vwCl [(h0, .inr (4, [.int 1, .int (bI go.isSome), .int wl]))] H := hP
  replace hD : va_D A [(h0, .inr (4, [.int 1, .int (bI go.isSome), .int wl]))] := hD
  refine lv_iconst (v := 0) hx hb d_P_lastsFor_22 (by decide) ?_
  have hP9 := hP.sub (ws' := [(h0, .inr (4, [.int 1, .int (bI go.isSome), .int wl]))]) [0] rfl
  have hD9 := hD.sub (ws' := [(h0, .inr (4, [.int 1, .int (bI go.isSome), .int wl]))]) [0] (by decide) rfl
  have hK9 := hK.sub (tys' := []) [] rfl
  exact W.zret (v := 0) (ty := .boolean) hx hb hr rfl (fun t ht hW => ⟨⟨0, (), rfl, rfl, by rw [ht]; exact hP9, va_K.moved hW.alike hK9, hD9⟩, hS.F ht⟩) hS.2.2 d_P_lastsFor_23
set_option maxHeartbeats 4000000 in
set_option maxRecDepth 100000 in
theorem g_baseOf (l : Launch) (dC : Nat → ClassId) (dI : Nat → Nat → Nat) (a1 : Int32)  : Met l y_K_baseOf k_K_baseOf ({ frames := 0, cells := 0, slots := 0, locals := 0 } : Room) (va_Pc [.int a1] (pc_R (dC, dI) [] [])) (vp_Si (fun r => r = a1 &&& (a1 - 1))) 0 0 (fun _ => False) := by
  refine Met.ofW (cc := prog_1_method_28_code) (maxL := 1) (ret := (some .int)) (by decide) rfl ?_
  intro p e s m args below meth c s₁ B hml hv
  obtain ⟨rfl, hP, hK, hN⟩ := hv
  have hx := B.exec
  have hb := B.bytes
  have hr := B.returns
  have hts := atoms_spec (ws := k_K_baseOf) B.pre
  have hw0 : ∀ w ∈ w0, w.before _ s = true := fun w h => hts w (List.mem_cons_of_mem _ h)
  have hown : s.vm.findClass R_K = some m.cls := findClass_of_methodNamed B.named
  have hlocks := B.notSynchronized
  have hP : va_P (dC, dI) vwCl [] s.heap := hP
  have hl := lv_entry ([.int a1]) (n := 1) (Nat.le_of_ble_eq_true rfl)
  rw [lg_entry_eq]
  generalize (lg_sl ([.int a1]) ++ List.replicate (1 - (lg_sl ([.int a1])).length) Slot.unset).toArray = ls at hl ⊢
  have hl : lv_has ls 1 [(0, .int a1)] := hl
  refine lv_iload_n hx hb d_K_baseOf_0 rfl (lv_at hl 0 rfl) ?_
  refine lv_iload_n hx hb d_K_baseOf_1 rfl (lv_at hl 0 rfl) ?_
  refine lv_iconst (v := 1) hx hb d_K_baseOf_2 (by decide) ?_
  refine lv_isub hx hb d_K_baseOf_3 ?_
  refine lv_topi (fun x_1 ex_1 => ?_)
  refine lv_iand hx hb d_K_baseOf_4 ?_
  refine lv_topi (fun x_2 ex_2 => ?_)
  exact W.iret (v := x_2) hx hb hr (fun t ht hW => ⟨x_2, rfl, (by rw [ex_2, ex_1]), ht⟩) (fun q h => by cases h) d_K_baseOf_5
set_option maxHeartbeats 4000000 in
set_option maxRecDepth 100000 in
theorem g_blocksFor (l : Launch) (dC : Nat → ClassId) (dI : Nat → Nat → Nat) (n : Nat) (hn : n < 2 ^ 20) : Met l y_K_blocksFor k_K_blocksFor ({ frames := 0, cells := 0, slots := 0, locals := 0 } : Room) (va_Pc [.int (nI n)] (pc_R (dC, dI) [] [])) (vp_Si (fun r => r = nI ((n + 31) / 32))) 0 0 (fun _ => False) := by
  refine Met.ofW (cc := prog_1_method_27_code) (maxL := 1) (ret := (some .int)) (by decide) rfl ?_
  intro p e s m args below meth c s₁ B hml hv
  obtain ⟨rfl, hP, hK, hN⟩ := hv
  have hx := B.exec
  have hb := B.bytes
  have hr := B.returns
  have hts := atoms_spec (ws := k_K_blocksFor) B.pre
  have hw0 : ∀ w ∈ w0, w.before _ s = true := fun w h => hts w (List.mem_cons_of_mem _ h)
  have hown : s.vm.findClass R_K = some m.cls := findClass_of_methodNamed B.named
  have hlocks := B.notSynchronized
  have hP : va_P (dC, dI) vwCl [] s.heap := hP
  have hl := lv_entry ([.int (nI n)]) (n := 1) (Nat.le_of_ble_eq_true rfl)
  rw [lg_entry_eq]
  generalize (lg_sl ([.int (nI n)]) ++ List.replicate (1 - (lg_sl ([.int (nI n)])).length) Slot.unset).toArray = ls at hl ⊢
  have hl : lv_has ls 1 [(0, .int (nI n))] := hl
  refine lv_iload_n hx hb d_K_blocksFor_0 rfl (lv_at hl 0 rfl) ?_
  refine lv_bipush (v := 32) hx hb d_K_blocksFor_1 (by decide +kernel) ?_
  refine lv_iadd hx hb d_K_blocksFor_3 ?_
  refine lv_topi (fun x_1 ex_1 => ?_)
  obtain rfl : x_1 = (nI (n + 32)) := by rw [ex_1]; exact nI_add n 32
  clear ex_1
  refine lv_iconst (v := 1) hx hb d_K_blocksFor_4 (by decide) ?_
  refine lv_isub hx hb d_K_blocksFor_5 ?_
  refine lv_topi (fun x_2 ex_2 => ?_)
  obtain rfl : x_2 = (nI (n + 31)) := by rw [ex_2]; exact (show nI (n + 32) - nI 1 = nI (n + 31) from pk_sub (by omega))
  clear ex_2
  refine lv_bipush (v := 32) hx hb d_K_blocksFor_6 (by decide +kernel) ?_
  refine lv_idiv hx hb d_K_blocksFor_8 (by decide +kernel) ?_
  refine lv_topi (fun x_3 ex_3 => ?_)
  obtain rfl : x_3 = (nI ((n + 31) / 32)) := by rw [ex_3]; exact (show nI (n + 31) / nI 32 = nI ((n + 31) / 32) from pk_div (by omega) (by decide) (by decide))
  clear ex_3
  exact W.iret (v := (nI ((n + 31) / 32))) hx hb hr (fun t ht hW => ⟨(nI ((n + 31) / 32)), rfl, rfl, ht⟩) (fun q h => by cases h) d_K_blocksFor_9
set_option maxHeartbeats 4000000 in
set_option maxRecDepth 100000 in
theorem g_initV (l : Launch) (dC : Nat → ClassId) (dI : Nat → Nat → Nat) (sz : Nat) (h0 : Nat) (hpi : Nat) (a1 : Int32) (a2 : Int32)  : Met l y_V_init k_V_init ({ frames := 1, cells := 0, slots := 0, locals := 12 } : Room) (va_Pc [.ref h0, .ref hpi, .int a1, .int a2] (pc_E (dC, dI) [(h0, .inr (6, [.null, .int 0, .int 0]))] [] sz)) (va_Qv (fun (_ : Unit) => True) (fun (_ : Unit) t => at_E (dC, dI) (va_A [(h0, .inr (6, [.null, .int 0, .int 0]))] sz) [(h0, .inr (6, [.ref hpi, .int a1, .int a2]))] [] t) (va_A [(h0, .inr (6, [.null, .int 0, .int 0]))] sz)) 0 0 (va_A [(h0, .inr (6, [.null, .int 0, .int 0]))] sz) := by
  refine Met.ofW (cc := prog_6_method_1_code) (maxL := 4) (ret := none) (by decide) rfl ?_
  intro p e s m args below meth c s₁ B hml hv
  obtain ⟨rfl, hsz, hP, hK, hD0, hN⟩ := hv
  have hx := B.exec
  have hb := B.bytes
  have hr := B.returns
  have hts := atoms_spec (ws := k_V_init) B.pre
  have hw0 : ∀ w ∈ w0, w.before _ s = true := fun w h => hts w (List.mem_cons_of_mem _ h)
  have hown : s.vm.findClass R_V = some m.cls := findClass_of_methodNamed B.named
  have hlocks := B.notSynchronized
  have hin : meth.name = "<init>" := (name_of_methodNamed B.named B.method).1
  subst hsz
  have hD := hD0.self (sz := s.heap.size)
  generalize hAe : va_A [(h0, .inr (6, [.null, .int 0, .int 0]))] s.heap.size = A at hD ⊢
  have hA : ∀ q : Nat, s.heap.size ≤ q → A q := fun q h => by rw [← hAe]; exact Or.inr h
  have hS : va_S A s.heap s.heap [] := va_S.rf
  have hP : va_P (dC, dI) vwCl [(h0, .inr (6, [.null, .int 0, .int 0]))] s.heap := hP
  have hl := lv_entry ([.ref h0, .ref hpi, .int a1, .int a2]) (n := 4) (Nat.le_of_ble_eq_true rfl)
  rw [lg_entry_eq]
  generalize (lg_sl ([.ref h0, .ref hpi, .int a1, .int a2]) ++ List.replicate (4 - (lg_sl ([.ref h0, .ref hpi, .int a1, .int a2])).length) Slot.unset).toArray = ls at hl ⊢
  have hl : lv_has ls 4 [(0, .ref h0), (1, .ref hpi), (2, .int a1), (3, .int a2)] := hl
  refine lv_aload_n hx hb d_V_init_0 rfl (lv_at hl 0 rfl) ?_
  refine W.objInit hx hb hown (hw0 (.methodLink R_V 1 objectInit) wm_298) (hw0 (.instanceMethod objectInit) wm_136) (hw0 (.code objectInit ⟨#[0xb1]⟩ 1 none) wm_137) rfl (by rw [hml]; exact hl.1) rfl d_V_init_1 (Nat.le_of_ble_eq_true rfl) (Nat.le_of_ble_eq_true rfl) ?_
  refine W.eq (g2 := F0 m 4 ls []) rfl ?_
  refine lv_aload_n hx hb d_V_init_4 rfl (lv_at hl 0 rfl) ?_
  refine lv_aload_n hx hb d_V_init_5 rfl (lv_at hl 1 rfl) ?_
  refine va_putF (D := (dC, dI)) (ci := 6) (v := .ref hpi) (ty := (.array .byte)) (C := R_V) (T := F_V) (N := 3) hx hb hw0 in_V ft_V tk_V nk_V hown hK hP hD hS 0 rfl rfl 0 (by decide) (hw0 (.fieldLink R_V 7 "TextKeeper$Revision" "piece" "[B") wm_299) (fun _ h9 => h9) rfl hin rfl (by decide +kernel) rfl rfl (Nat.le_of_ble_eq_true rfl) d_V_init_6 (fun H locs hP hD hS => ?_)
  replace hP : va_P (dC, dI) vwCl [(h0, .inr (6, [.ref hpi, .int 0, .int 0]))] H := hP
  replace hD : va_D A [(h0, .inr (6, [.ref hpi, .int 0, .int 0]))] := hD
  refine lv_aload_n hx hb d_V_init_9 rfl (lv_at hl 0 rfl) ?_
  refine lv_iload_n hx hb d_V_init_10 rfl (lv_at hl 2 rfl) ?_
  refine va_putF (D := (dC, dI)) (ci := 6) (v := .int a1) (ty := .int) (C := R_V) (T := F_V) (N := 3) hx hb hw0 in_V ft_V tk_V nk_V hown hK hP hD hS 0 rfl rfl 1 (by decide) (hw0 (.fieldLink R_V 13 "TextKeeper$Revision" "author" "I") wm_300) (fun _ h9 => h9) rfl hin rfl (by decide +kernel) rfl rfl (Nat.le_of_ble_eq_true rfl) d_V_init_11 (fun H locs hP hD hS => ?_)
  replace hP : va_P (dC, dI) vwCl [(h0, .inr (6, [.ref hpi, .int a1, .int 0]))] H := hP
  replace hD : va_D A [(h0, .inr (6, [.ref hpi, .int a1, .int 0]))] := hD
  refine lv_aload_n hx hb d_V_init_14 rfl (lv_at hl 0 rfl) ?_
  refine lv_iload_n hx hb d_V_init_15 rfl (lv_at hl 3 rfl) ?_
  refine va_putF (D := (dC, dI)) (ci := 6) (v := .int a2) (ty := .int) (C := R_V) (T := F_V) (N := 3) hx hb hw0 in_V ft_V tk_V nk_V hown hK hP hD hS 0 rfl rfl 2 (by decide) (hw0 (.fieldLink R_V 17 "TextKeeper$Revision" "sum" "I") wm_301) (fun _ h9 => h9) rfl hin rfl (by decide +kernel) rfl rfl (Nat.le_of_ble_eq_true rfl) d_V_init_16 (fun H locs hP hD hS => ?_)
  replace hP : va_P (dC, dI) vwCl [(h0, .inr (6, [.ref hpi, .int a1, .int a2]))] H := hP
  replace hD : va_D A [(h0, .inr (6, [.ref hpi, .int a1, .int a2]))] := hD
  have hP9 := hP.sub (ws' := [(h0, .inr (6, [.ref hpi, .int a1, .int a2]))]) [0] rfl
  have hD9 := hD.sub (ws' := [(h0, .inr (6, [.ref hpi, .int a1, .int a2]))]) [0] (by decide) rfl
  have hK9 := hK.sub (tys' := []) [] rfl
  exact W.vret hx hb hr (fun t ht hW => ⟨⟨(), rfl, trivial, by rw [ht]; exact hP9, va_K.moved hW.alike hK9, hD9⟩, hS.F ht⟩) hS.2.2 d_V_init_19
set_option maxHeartbeats 4000000 in
set_option maxRecDepth 100000 in
theorem g_hasByte_T (l : Launch) (dC : Nat → ClassId) (dI : Nat → Nat → Nat) (hv : Nat) (hpi : Nat) (cB : ClassId) (np : Nat) (fp : Nat → Int32) (au : Int32) (sm : Int32) (x : Nat) (hx9 : x < np) (hnp : np ≤ 1024) : Met l y_V_hasByte k_V_hasByte ({ frames := 0, cells := 0, slots := 0, locals := 0 } : Room) (va_Pc [.ref hv, .int (nI x)] (pc_R (dC, dI) [(hv, .inr (6, [.ref hpi, .int au, .int sm])), (hpi, .inl (cB, np, .inl (fp)))] [(cB, .byte)])) (vp_Si (fun r => r = 1)) 0 0 (fun _ => False) := by
  refine Met.ofW (cc := prog_6_method_2_code) (maxL := 2) (ret := (some .boolean)) (by decide) rfl ?_
  intro p e s m args below meth c s₁ B hml hv
  obtain ⟨rfl, hP, hK, hN⟩ := hv
  have hx := B.exec
  have hb := B.bytes
  have hr := B.returns
  have hts := atoms_spec (ws := k_V_hasByte) B.pre
  have hw0 : ∀ w ∈ w0, w.before _ s = true := fun w h => hts w (List.mem_cons_of_mem _ h)
  have hown : s.vm.findClass R_V = some m.cls := findClass_of_methodNamed B.named
  have hlocks := B.notSynchronized
  have hP : va_P (dC, dI) vwCl [(hv, .inr (6, [.ref hpi, .int au, .int sm])), (hpi, .inl (cB, np, .inl (fp)))] s.heap := hP
  have hl := lv_entry ([.ref hv, .int (nI x)]) (n := 2) (Nat.le_of_ble_eq_true rfl)
  rw [lg_entry_eq]
  generalize (lg_sl ([.ref hv, .int (nI x)]) ++ List.replicate (2 - (lg_sl ([.ref hv, .int (nI x)])).length) Slot.unset).toArray = ls at hl ⊢
  have hl : lv_has ls 2 [(0, .ref hv), (1, .int (nI x))] := hl
  refine lv_iload_n hx hb d_V_hasByte_0 rfl (lv_at hl 1 rfl) ?_
  refine lv_if_lt (tgt := 17) hx hb d_V_hasByte_1 (by decide) (fun c_1 => absurd c_1 (nI_pos (by omega))) (fun c_1 => ?_)
  refine lv_iload_n hx hb d_V_hasByte_4 rfl (lv_at hl 1 rfl) ?_
  refine lv_aload_n hx hb d_V_hasByte_5 rfl (lv_at hl 0 rfl) ?_
  refine va_get (D := (dC, dI)) (ci := 6) (v := .ref hpi) (C := R_V) (T := F_V) (N := 3) hx hb hw0 in_V hown hK hP 0 rfl rfl 0 (by decide) (hw0 (.fieldLink R_V 7 "TextKeeper$Revision" "piece" "[B") wm_299) (fun _ h9 => h9) rfl d_V_hasByte_6 ?_
  refine va_alen (v := nI np) hx hb hK hP 1 0 rfl rfl (rfl) d_V_hasByte_9 ?_
  refine lv_icmp_ge (tgt := 17) hx hb d_V_hasByte_10 (by decide) (fun c_2 => absurd c_2 (nI_ge hx9 (by omega))) (fun c_2 => ?_)
  refine lv_iconst (v := 1) hx hb d_V_hasByte_13 (by decide) ?_
  refine lv_goto (tgt := 18) hx hb d_V_hasByte_14 (by decide) ?_
  exact W.zret (v := 1) (ty := .boolean) hx hb hr rfl (fun t ht hW => ⟨1, rfl, rfl, ht⟩) (fun q h => by cases h) d_V_hasByte_18
set_option maxHeartbeats 4000000 in
set_option maxRecDepth 100000 in
theorem g_hasByte_F (l : Launch) (dC : Nat → ClassId) (dI : Nat → Nat → Nat) (hv : Nat) (hpi : Nat) (cB : ClassId) (np : Nat) (fp : Nat → Int32) (au : Int32) (sm : Int32) (a1 : Int32) (hx9 : a1 < 0 ∨ nI np ≤ a1) : Met l y_V_hasByte k_V_hasByte ({ frames := 0, cells := 0, slots := 0, locals := 0 } : Room) (va_Pc [.ref hv, .int a1] (pc_R (dC, dI) [(hv, .inr (6, [.ref hpi, .int au, .int sm])), (hpi, .inl (cB, np, .inl (fp)))] [(cB, .byte)])) (vp_Si (fun r => r = 0)) 0 0 (fun _ => False) := by
  refine Met.ofW (cc := prog_6_method_2_code) (maxL := 2) (ret := (some .boolean)) (by decide) rfl ?_
  intro p e s m args below meth c s₁ B hml hv
  obtain ⟨rfl, hP, hK, hN⟩ := hv
  have hx := B.exec
  have hb := B.bytes
  have hr := B.returns
  have hts := atoms_spec (ws := k_V_hasByte) B.pre
  have hw0 : ∀ w ∈ w0, w.before _ s = true := fun w h => hts w (List.mem_cons_of_mem _ h)
  have hown : s.vm.findClass R_V = some m.cls := findClass_of_methodNamed B.named
  have hlocks := B.notSynchronized
  have hP : va_P (dC, dI) vwCl [(hv, .inr (6, [.ref hpi, .int au, .int sm])), (hpi, .inl (cB, np, .inl (fp)))] s.heap := hP
  have hl := lv_entry ([.ref hv, .int a1]) (n := 2) (Nat.le_of_ble_eq_true rfl)
  rw [lg_entry_eq]
  generalize (lg_sl ([.ref hv, .int a1]) ++ List.replicate (2 - (lg_sl ([.ref hv, .int a1])).length) Slot.unset).toArray = ls at hl ⊢
  have hl : lv_has ls 2 [(0, .ref hv), (1, .int a1)] := hl
  refine lv_iload_n hx hb d_V_hasByte_0 rfl (lv_at hl 1 rfl) ?_
  refine lv_if_lt (tgt := 17) hx hb d_V_hasByte_1 (by decide) (fun c_1 => ?_) (fun c_1 => ?_)
  · refine lv_iconst (v := 0) hx hb d_V_hasByte_17 (by decide) ?_
    exact W.zret (v := 0) (ty := .boolean) hx hb hr rfl (fun t ht hW => ⟨0, rfl, rfl, ht⟩) (fun q h => by cases h) d_V_hasByte_18
  · refine lv_iload_n hx hb d_V_hasByte_4 rfl (lv_at hl 1 rfl) ?_
    refine lv_aload_n hx hb d_V_hasByte_5 rfl (lv_at hl 0 rfl) ?_
    refine va_get (D := (dC, dI)) (ci := 6) (v := .ref hpi) (C := R_V) (T := F_V) (N := 3) hx hb hw0 in_V hown hK hP 0 rfl rfl 0 (by decide) (hw0 (.fieldLink R_V 7 "TextKeeper$Revision" "piece" "[B") wm_299) (fun _ h9 => h9) rfl d_V_hasByte_6 ?_
    refine va_alen (v := nI np) hx hb hK hP 1 0 rfl rfl (rfl) d_V_hasByte_9 ?_
    refine lv_icmp_ge (tgt := 17) hx hb d_V_hasByte_10 (by decide) (fun c_2 => ?_) (fun c_2 => absurd hx9 (fun q => q.elim c_1 c_2))
    refine lv_iconst (v := 0) hx hb d_V_hasByte_17 (by decide) ?_
    exact W.zret (v := 0) (ty := .boolean) hx hb hr rfl (fun t ht hW => ⟨0, rfl, rfl, ht⟩) (fun q h => by cases h) d_V_hasByte_18
set_option maxHeartbeats 4000000 in
set_option maxRecDepth 100000 in
theorem g_initD (l : Launch) (dC : Nat → ClassId) (dI : Nat → Nat → Nat) (sz : Nat) (hdo : Nat)  : Met l y_D_init k_D_init ({ frames := 1, cells := 1, slots := 64, locals := 12 } : Room) (va_Pc [.ref hdo] (pc_E (dC, dI) [(hdo, .inr (5, [.null, .int 0, .int 0]))] [] sz)) (va_Qv (fun (_ : Unit) => True) (fun (_ : Unit) t => ∃ (hra : Nat) (cR : ClassId), at_E (dC, dI) (va_A [(hdo, .inr (5, [.null, .int 0, .int 0]))] sz) [(hdo, .inr (5, [.ref hra, .int 0, .int 0])), (hra, .inl (cR, 64, .inr (.inr (.inr (.inr (fun _ => none))))))] [(cR, .object R_V)] t) (va_A [(hdo, .inr (5, [.null, .int 0, .int 0]))] sz)) 1 64 (va_A [(hdo, .inr (5, [.null, .int 0, .int 0]))] sz) := by
  refine Met.ofW (cc := prog_2_method_1_code) (maxL := 1) (ret := none) (by decide) rfl ?_
  intro p e s m args below meth c s₁ B hml hv
  obtain ⟨rfl, hsz, hP, hK, hD0, hN⟩ := hv
  have hx := B.exec
  have hb := B.bytes
  have hr := B.returns
  have hts := atoms_spec (ws := k_D_init) B.pre
  have hw0 : ∀ w ∈ w0, w.before _ s = true := fun w h => hts w (List.mem_cons_of_mem _ h)
  have hown : s.vm.findClass R_D = some m.cls := findClass_of_methodNamed B.named
  have hlocks := B.notSynchronized
  have hin : meth.name = "<init>" := (name_of_methodNamed B.named B.method).1
  subst hsz
  have hD := hD0.self (sz := s.heap.size)
  generalize hAe : va_A [(hdo, .inr (5, [.null, .int 0, .int 0]))] s.heap.size = A at hD ⊢
  have hA : ∀ q : Nat, s.heap.size ≤ q → A q := fun q h => by rw [← hAe]; exact Or.inr h
  have hS : va_S A s.heap s.heap [] := va_S.rf
  have hP : va_P (dC, dI) vwCl [(hdo, .inr (5, [.null, .int 0, .int 0]))] s.heap := hP
  have hl := lv_entry ([.ref hdo]) (n := 1) (Nat.le_of_ble_eq_true rfl)
  rw [lg_entry_eq]
  generalize (lg_sl ([.ref hdo]) ++ List.replicate (1 - (lg_sl ([.ref hdo])).length) Slot.unset).toArray = ls at hl ⊢
  have hl : lv_has ls 1 [(0, .ref hdo)] := hl
  refine lv_aload_n hx hb d_D_init_0 rfl (lv_at hl 0 rfl) ?_
  refine W.objInit hx hb hown (hw0 (.methodLink R_D 3 objectInit) wm_302) (hw0 (.instanceMethod objectInit) wm_136) (hw0 (.code objectInit ⟨#[0xb1]⟩ 1 none) wm_137) rfl (by rw [hml]; exact hl.1) rfl d_D_init_1 (Nat.le_of_ble_eq_true rfl) (Nat.le_of_ble_eq_true rfl) ?_
  refine W.eq (g2 := F0 m 4 ls []) rfl ?_
  refine lv_aload_n hx hb d_D_init_4 rfl (lv_at hl 0 rfl) ?_
  refine lv_bipush (v := 64) hx hb d_D_init_5 (by decide +kernel) ?_
  refine va_newq (N' := 64) hx hb hown (hw0 (.classLink R_D 9 R_V) wm_303) (hN.2 _ (List.mem_of_getElem? (i := 1) rfl)) hK hP hD hS hA (by decide +kernel) (by decide +kernel) (by decide +kernel) (by decide +kernel) (by decide +kernel) d_D_init_7 (fun q_1 cA_2 H hK hP hD hS => ?_)
  replace hK : va_K (dC, dI) vwCl [(cA_2, .object R_V)] s := hK
  replace hP : va_P (dC, dI) vwCl [(hdo, .inr (5, [.null, .int 0, .int 0])), (q_1, .inl (cA_2, 64, .inr (.inr (.inr (.inr (fun _ => none))))))] H := hP
  replace hD : va_D A [(hdo, .inr (5, [.null, .int 0, .int 0])), (q_1, .inl (cA_2, 64, .inr (.inr (.inr (.inr (fun _ => none))))))] := hD
  refine W.widen (k := 1) (n := 64) (by decide +kernel) (by decide +kernel) ?_
  refine va_putF (D := (dC, dI)) (ci := 5) (v := .ref q_1) (ty := (.array (.object "TextKeeper$Revision"))) (C := R_D) (T := F_D) (N := 3) hx hb hw0 in_D ft_D tk_D nk_D hown hK hP hD hS 0 rfl rfl 0 (by decide) (hw0 (.fieldLink R_D 11 "TextKeeper$Document" "revisions" "[LTextKeeper$Revision;") wm_304) (fun _ h9 => h9) rfl hin rfl (by decide +kernel) rfl rfl (Nat.le_of_ble_eq_true rfl) d_D_init_10 (fun H locs hP hD hS => ?_)
  replace hP : va_P (dC, dI) vwCl [(hdo, .inr (5, [.ref q_1, .int 0, .int 0])), (q_1, .inl (cA_2, 64, .inr (.inr (.inr (.inr (fun _ => none))))))] H := hP
  replace hD : va_D A [(hdo, .inr (5, [.ref q_1, .int 0, .int 0])), (q_1, .inl (cA_2, 64, .inr (.inr (.inr (.inr (fun _ => none))))))] := hD
  refine lv_aload_n hx hb d_D_init_13 rfl (lv_at hl 0 rfl) ?_
  refine lv_iconst (v := 0) hx hb d_D_init_14 (by decide) ?_
  refine va_put (D := (dC, dI)) (ci := 5) (v := .int 0) (ty := .int) (C := R_D) (T := F_D) (N := 3) hx hb hw0 in_D ft_D tk_D nk_D hown hK hP hD hS 0 rfl rfl 1 (by decide) (hw0 (.fieldLink R_D 17 "TextKeeper$Document" "first" "I") wm_305) (fun _ h9 => h9) rfl (by decide +kernel) rfl rfl (Nat.le_of_ble_eq_true rfl) d_D_init_15 (fun H locs hP hD hS => ?_)
  replace hP : va_P (dC, dI) vwCl [(hdo, .inr (5, [.ref q_1, .int 0, .int 0])), (q_1, .inl (cA_2, 64, .inr (.inr (.inr (.inr (fun _ => none))))))] H := hP
  replace hD : va_D A [(hdo, .inr (5, [.ref q_1, .int 0, .int 0])), (q_1, .inl (cA_2, 64, .inr (.inr (.inr (.inr (fun _ => none))))))] := hD
  refine lv_aload_n hx hb d_D_init_18 rfl (lv_at hl 0 rfl) ?_
  refine lv_iconst (v := 0) hx hb d_D_init_19 (by decide) ?_
  refine va_put (D := (dC, dI)) (ci := 5) (v := .int 0) (ty := .int) (C := R_D) (T := F_D) (N := 3) hx hb hw0 in_D ft_D tk_D nk_D hown hK hP hD hS 0 rfl rfl 2 (by decide) (hw0 (.fieldLink R_D 21 "TextKeeper$Document" "count" "I") wm_306) (fun _ h9 => h9) rfl (by decide +kernel) rfl rfl (Nat.le_of_ble_eq_true rfl) d_D_init_20 (fun H locs hP hD hS => ?_)
  replace hP : va_P (dC, dI) vwCl [(hdo, .inr (5, [.ref q_1, .int 0, .int 0])), (q_1, .inl (cA_2, 64, .inr (.inr (.inr (.inr (fun _ => none))))))] H := hP
  replace hD : va_D A [(hdo, .inr (5, [.ref q_1, .int 0, .int 0])), (q_1, .inl (cA_2, 64, .inr (.inr (.inr (.inr (fun _ => none))))))] := hD
  have hP9 := hP.sub (ws' := [(hdo, .inr (5, [.ref q_1, .int 0, .int 0])), (q_1, .inl (cA_2, 64, .inr (.inr (.inr (.inr (fun _ => none))))))]) [0, 1] rfl
  have hD9 := hD.sub (ws' := [(hdo, .inr (5, [.ref q_1, .int 0, .int 0])), (q_1, .inl (cA_2, 64, .inr (.inr (.inr (.inr (fun _ => none))))))]) [0, 1] (by decide) rfl
  have hK9 := hK.sub (tys' := [(cA_2, .object R_V)]) [0] rfl
  exact W.vret hx hb hr (fun t ht hW => ⟨⟨(), rfl, trivial, q_1, cA_2, by rw [ht]; exact hP9, va_K.moved hW.alike hK9, hD9⟩, hS.F ht⟩) hS.2.2 d_D_init_23
set_option maxHeartbeats 4000000 in
set_option maxRecDepth 100000 in
theorem g_isFull (l : Launch) (dC : Nat → ClassId) (dI : Nat → Nat → Nat) (hdo : Nat) (hra : Nat) (cR : ClassId) (df : Nat) (dn : Nat) (fr : Nat → Option Nat) (hdn : dn ≤ 64) : Met l y_D_isFull k_D_isFull ({ frames := 0, cells := 0, slots := 0, locals := 0 } : Room) (va_Pc [.ref hdo] (pc_R (dC, dI) [(hdo, .inr (5, [.ref hra, .int (nI df), .int (nI dn)])), (hra, .inl (cR, 64, .inr (.inr (.inr (.inr (fr))))))] [(cR, .object R_V)])) (vp_Si (fun r => r = bI (decide (64 ≤ dn)))) 0 0 (fun _ => False) := by
  refine Met.ofW (cc := prog_2_method_2_code) (maxL := 1) (ret := (some .boolean)) (by decide) rfl ?_
  intro p e s m args below meth c s₁ B hml hv
  obtain ⟨rfl, hP, hK, hN⟩ := hv
  have hx := B.exec
  have hb := B.bytes
  have hr := B.returns
  have hts := atoms_spec (ws := k_D_isFull) B.pre
  have hw0 : ∀ w ∈ w0, w.before _ s = true := fun w h => hts w (List.mem_cons_of_mem _ h)
  have hown : s.vm.findClass R_D = some m.cls := findClass_of_methodNamed B.named
  have hlocks := B.notSynchronized
  have hP : va_P (dC, dI) vwCl [(hdo, .inr (5, [.ref hra, .int (nI df), .int (nI dn)])), (hra, .inl (cR, 64, .inr (.inr (.inr (.inr (fr))))))] s.heap := hP
  have hl := lv_entry ([.ref hdo]) (n := 1) (Nat.le_of_ble_eq_true rfl)
  rw [lg_entry_eq]
  generalize (lg_sl ([.ref hdo]) ++ List.replicate (1 - (lg_sl ([.ref hdo])).length) Slot.unset).toArray = ls at hl ⊢
  have hl : lv_has ls 1 [(0, .ref hdo)] := hl
  refine lv_aload_n hx hb d_D_isFull_0 rfl (lv_at hl 0 rfl) ?_
  refine va_get (D := (dC, dI)) (ci := 5) (v := .int (nI dn)) (C := R_D) (T := F_D) (N := 3) hx hb hw0 in_D hown hK hP 0 rfl rfl 2 (by decide) (hw0 (.fieldLink R_D 21 "TextKeeper$Document" "count" "I") wm_306) (fun _ h9 => h9) rfl d_D_isFull_1 ?_
  refine lv_bipush (v := 64) hx hb d_D_isFull_4 (by decide +kernel) ?_
  refine lv_icmp_lt (tgt := 13) hx hb d_D_isFull_6 (by decide) (fun c_1 => ?_) (fun c_1 => ?_)
  · refine lv_iconst (v := 0) hx hb d_D_isFull_13 (by decide) ?_
    exact W.zret (v := 0) (ty := .boolean) hx hb hr rfl (fun t ht hW => ⟨0, rfl, (by have h9 := c_1; rw [bI, decide_eq_false (fun q => by have := Int32.not_le.mpr h9; exact this (nI_le (a := 64) q (by omega)))]; rfl), ht⟩) (fun q h => by cases h) d_D_isFull_14
  · refine lv_iconst (v := 1) hx hb d_D_isFull_9 (by decide) ?_
    refine lv_goto (tgt := 14) hx hb d_D_isFull_10 (by decide) ?_
    exact W.zret (v := 1) (ty := .boolean) hx hb hr rfl (fun t ht hW => ⟨1, rfl, (by have h9 := c_1; rw [bI, decide_eq_true (by rcases Nat.lt_or_ge dn 64 with z | z; exact absurd (nI_lt z (by decide)) h9; exact z)]; rfl), ht⟩) (fun q h => by cases h) d_D_isFull_14
set_option maxHeartbeats 4000000 in
set_option maxRecDepth 100000 in
theorem g_newest (l : Launch) (dC : Nat → ClassId) (dI : Nat → Nat → Nat) (hdo : Nat) (hra : Nat) (cR : ClassId) (df : Nat) (dn : Nat) (fr : Nat → Option Nat) (hdn : dn ≤ 64) : Met l y_D_newest k_D_newest ({ frames := 0, cells := 0, slots := 0, locals := 0 } : Room) (va_Pc [.ref hdo] (pc_R (dC, dI) [(hdo, .inr (5, [.ref hra, .int (nI df), .int (nI dn)])), (hra, .inl (cR, 64, .inr (.inr (.inr (.inr (fr))))))] [(cR, .object R_V)])) (vp_Si (fun r => r = nwI dn)) 0 0 (fun _ => False) := by
  refine Met.ofW (cc := prog_2_method_3_code) (maxL := 1) (ret := (some .int)) (by decide) rfl ?_
  intro p e s m args below meth c s₁ B hml hv
  obtain ⟨rfl, hP, hK, hN⟩ := hv
  have hx := B.exec
  have hb := B.bytes
  have hr := B.returns
  have hts := atoms_spec (ws := k_D_newest) B.pre
  have hw0 : ∀ w ∈ w0, w.before _ s = true := fun w h => hts w (List.mem_cons_of_mem _ h)
  have hown : s.vm.findClass R_D = some m.cls := findClass_of_methodNamed B.named
  have hlocks := B.notSynchronized
  have hP : va_P (dC, dI) vwCl [(hdo, .inr (5, [.ref hra, .int (nI df), .int (nI dn)])), (hra, .inl (cR, 64, .inr (.inr (.inr (.inr (fr))))))] s.heap := hP
  have hl := lv_entry ([.ref hdo]) (n := 1) (Nat.le_of_ble_eq_true rfl)
  rw [lg_entry_eq]
  generalize (lg_sl ([.ref hdo]) ++ List.replicate (1 - (lg_sl ([.ref hdo])).length) Slot.unset).toArray = ls at hl ⊢
  have hl : lv_has ls 1 [(0, .ref hdo)] := hl
  refine lv_aload_n hx hb d_D_newest_0 rfl (lv_at hl 0 rfl) ?_
  refine va_get (D := (dC, dI)) (ci := 5) (v := .int (nI dn)) (C := R_D) (T := F_D) (N := 3) hx hb hw0 in_D hown hK hP 0 rfl rfl 2 (by decide) (hw0 (.fieldLink R_D 21 "TextKeeper$Document" "count" "I") wm_306) (fun _ h9 => h9) rfl d_D_newest_1 ?_
  refine lv_if_le (tgt := 16) hx hb d_D_newest_4 (by decide) (fun c_1 => ?_) (fun c_1 => ?_)
  · have hz9 : dn = 0 := (by rcases Nat.eq_zero_or_pos dn with z | z; exact z; exact absurd c_1 (nI_nle z (by omega)))
    refine lv_iconst (v := (-1)) hx hb d_D_newest_16 (by decide) ?_
    exact W.iret (v := (-1)) hx hb hr (fun t ht hW => ⟨(-1), rfl, (by rw [hz9]; rfl), ht⟩) (fun q h => by cases h) d_D_newest_17
  · have hz9 : 0 < dn := (by rcases Nat.eq_zero_or_pos dn with z | z; exact absurd (by rw [z]; decide) c_1; exact z)
    refine lv_aload_n hx hb d_D_newest_7 rfl (lv_at hl 0 rfl) ?_
    refine va_get (D := (dC, dI)) (ci := 5) (v := .int (nI dn)) (C := R_D) (T := F_D) (N := 3) hx hb hw0 in_D hown hK hP 0 rfl rfl 2 (by decide) (hw0 (.fieldLink R_D 21 "TextKeeper$Document" "count" "I") wm_306) (fun _ h9 => h9) rfl d_D_newest_8 ?_
    refine lv_iconst (v := 1) hx hb d_D_newest_11 (by decide) ?_
    refine lv_isub hx hb d_D_newest_12 ?_
    refine lv_topi (fun x_2 ex_2 => ?_)
    refine lv_goto (tgt := 17) hx hb d_D_newest_13 (by decide) ?_
    exact W.iret (v := x_2) hx hb hr (fun t ht hW => ⟨x_2, rfl, (by rw [ex_2]; exact nwI_s hz9), ht⟩) (fun q h => by cases h) d_D_newest_17
set_option maxHeartbeats 4000000 in
set_option maxRecDepth 100000 in
theorem g_asked_T (l : Launch) (dC : Nat → ClassId) (dI : Nat → Nat → Nat) (hdo : Nat) (hra : Nat) (cR : ClassId) (df : Nat) (dn : Nat) (fr : Nat → Option Nat) (r9 : Nat) (hdn : dn ≤ 64) (ha1 : df ≤ r9) (ha2 : r9 < dn) : Met l y_D_canBeAsked k_D_canBeAsked ({ frames := 0, cells := 0, slots := 0, locals := 0 } : Room) (va_Pc [.ref hdo, .int (nI r9)] (pc_R (dC, dI) [(hdo, .inr (5, [.ref hra, .int (nI df), .int (nI dn)])), (hra, .inl (cR, 64, .inr (.inr (.inr (.inr (fr))))))] [(cR, .object R_V)])) (vp_Si (fun r => r = 1)) 0 0 (fun _ => False) := by
  refine Met.ofW (cc := prog_2_method_4_code) (maxL := 2) (ret := (some .boolean)) (by decide) rfl ?_
  intro p e s m args below meth c s₁ B hml hv
  obtain ⟨rfl, hP, hK, hN⟩ := hv
  have hx := B.exec
  have hb := B.bytes
  have hr := B.returns
  have hts := atoms_spec (ws := k_D_canBeAsked) B.pre
  have hw0 : ∀ w ∈ w0, w.before _ s = true := fun w h => hts w (List.mem_cons_of_mem _ h)
  have hown : s.vm.findClass R_D = some m.cls := findClass_of_methodNamed B.named
  have hlocks := B.notSynchronized
  have hP : va_P (dC, dI) vwCl [(hdo, .inr (5, [.ref hra, .int (nI df), .int (nI dn)])), (hra, .inl (cR, 64, .inr (.inr (.inr (.inr (fr))))))] s.heap := hP
  have hl := lv_entry ([.ref hdo, .int (nI r9)]) (n := 2) (Nat.le_of_ble_eq_true rfl)
  rw [lg_entry_eq]
  generalize (lg_sl ([.ref hdo, .int (nI r9)]) ++ List.replicate (2 - (lg_sl ([.ref hdo, .int (nI r9)])).length) Slot.unset).toArray = ls at hl ⊢
  have hl : lv_has ls 2 [(0, .ref hdo), (1, .int (nI r9))] := hl
  refine lv_iload_n hx hb d_D_canBeAsked_0 rfl (lv_at hl 1 rfl) ?_
  refine lv_aload_n hx hb d_D_canBeAsked_1 rfl (lv_at hl 0 rfl) ?_
  refine va_get (D := (dC, dI)) (ci := 5) (v := .int (nI df)) (C := R_D) (T := F_D) (N := 3) hx hb hw0 in_D hown hK hP 0 rfl rfl 1 (by decide) (hw0 (.fieldLink R_D 17 "TextKeeper$Document" "first" "I") wm_305) (fun _ h9 => h9) rfl d_D_canBeAsked_2 ?_
  refine lv_icmp_lt (tgt := 20) hx hb d_D_canBeAsked_5 (by decide) (fun c_1 => absurd c_1 (Int32.not_lt.mpr (nI_le ha1 (by omega)))) (fun c_1 => ?_)
  refine lv_iload_n hx hb d_D_canBeAsked_8 rfl (lv_at hl 1 rfl) ?_
  refine lv_aload_n hx hb d_D_canBeAsked_9 rfl (lv_at hl 0 rfl) ?_
  refine va_get (D := (dC, dI)) (ci := 5) (v := .int (nI dn)) (C := R_D) (T := F_D) (N := 3) hx hb hw0 in_D hown hK hP 0 rfl rfl 2 (by decide) (hw0 (.fieldLink R_D 21 "TextKeeper$Document" "count" "I") wm_306) (fun _ h9 => h9) rfl d_D_canBeAsked_10 ?_
  refine lv_icmp_ge (tgt := 20) hx hb d_D_canBeAsked_13 (by decide) (fun c_2 => absurd c_2 (nI_ge ha2 (by omega))) (fun c_2 => ?_)
  refine lv_iconst (v := 1) hx hb d_D_canBeAsked_16 (by decide) ?_
  refine lv_goto (tgt := 21) hx hb d_D_canBeAsked_17 (by decide) ?_
  exact W.zret (v := 1) (ty := .boolean) hx hb hr rfl (fun t ht hW => ⟨1, rfl, rfl, ht⟩) (fun q h => by cases h) d_D_canBeAsked_21
set_option maxHeartbeats 4000000 in
set_option maxRecDepth 100000 in
theorem g_asked_F (l : Launch) (dC : Nat → ClassId) (dI : Nat → Nat → Nat) (hdo : Nat) (hra : Nat) (cR : ClassId) (df : Nat) (dn : Nat) (fr : Nat → Option Nat) (a1 : Int32) (hna : a1 < nI df ∨ nI dn ≤ a1) : Met l y_D_canBeAsked k_D_canBeAsked ({ frames := 0, cells := 0, slots := 0, locals := 0 } : Room) (va_Pc [.ref hdo, .int a1] (pc_R (dC, dI) [(hdo, .inr (5, [.ref hra, .int (nI df), .int (nI dn)])), (hra, .inl (cR, 64, .inr (.inr (.inr (.inr (fr))))))] [(cR, .object R_V)])) (vp_Si (fun r => r = 0)) 0 0 (fun _ => False) := by
  refine Met.ofW (cc := prog_2_method_4_code) (maxL := 2) (ret := (some .boolean)) (by decide) rfl ?_
  intro p e s m args below meth c s₁ B hml hv
  obtain ⟨rfl, hP, hK, hN⟩ := hv
  have hx := B.exec
  have hb := B.bytes
  have hr := B.returns
  have hts := atoms_spec (ws := k_D_canBeAsked) B.pre
  have hw0 : ∀ w ∈ w0, w.before _ s = true := fun w h => hts w (List.mem_cons_of_mem _ h)
  have hown : s.vm.findClass R_D = some m.cls := findClass_of_methodNamed B.named
  have hlocks := B.notSynchronized
  have hP : va_P (dC, dI) vwCl [(hdo, .inr (5, [.ref hra, .int (nI df), .int (nI dn)])), (hra, .inl (cR, 64, .inr (.inr (.inr (.inr (fr))))))] s.heap := hP
  have hl := lv_entry ([.ref hdo, .int a1]) (n := 2) (Nat.le_of_ble_eq_true rfl)
  rw [lg_entry_eq]
  generalize (lg_sl ([.ref hdo, .int a1]) ++ List.replicate (2 - (lg_sl ([.ref hdo, .int a1])).length) Slot.unset).toArray = ls at hl ⊢
  have hl : lv_has ls 2 [(0, .ref hdo), (1, .int a1)] := hl
  refine lv_iload_n hx hb d_D_canBeAsked_0 rfl (lv_at hl 1 rfl) ?_
  refine lv_aload_n hx hb d_D_canBeAsked_1 rfl (lv_at hl 0 rfl) ?_
  refine va_get (D := (dC, dI)) (ci := 5) (v := .int (nI df)) (C := R_D) (T := F_D) (N := 3) hx hb hw0 in_D hown hK hP 0 rfl rfl 1 (by decide) (hw0 (.fieldLink R_D 17 "TextKeeper$Document" "first" "I") wm_305) (fun _ h9 => h9) rfl d_D_canBeAsked_2 ?_
  refine lv_icmp_lt (tgt := 20) hx hb d_D_canBeAsked_5 (by decide) (fun c_1 => ?_) (fun c_1 => ?_)
  · refine lv_iconst (v := 0) hx hb d_D_canBeAsked_20 (by decide) ?_
    exact W.zret (v := 0) (ty := .boolean) hx hb hr rfl (fun t ht hW => ⟨0, rfl, rfl, ht⟩) (fun q h => by cases h) d_D_canBeAsked_21
  · refine lv_iload_n hx hb d_D_canBeAsked_8 rfl (lv_at hl 1 rfl) ?_
    refine lv_aload_n hx hb d_D_canBeAsked_9 rfl (lv_at hl 0 rfl) ?_
    refine va_get (D := (dC, dI)) (ci := 5) (v := .int (nI dn)) (C := R_D) (T := F_D) (N := 3) hx hb hw0 in_D hown hK hP 0 rfl rfl 2 (by decide) (hw0 (.fieldLink R_D 21 "TextKeeper$Document" "count" "I") wm_306) (fun _ h9 => h9) rfl d_D_canBeAsked_10 ?_
    refine lv_icmp_ge (tgt := 20) hx hb d_D_canBeAsked_13 (by decide) (fun c_2 => ?_) (fun c_2 => absurd hna (fun q => q.elim c_1 c_2))
    refine lv_iconst (v := 0) hx hb d_D_canBeAsked_20 (by decide) ?_
    exact W.zret (v := 0) (ty := .boolean) hx hb hr rfl (fun t ht hW => ⟨0, rfl, rfl, ht⟩) (fun q h => by cases h) d_D_canBeAsked_21
set_option maxHeartbeats 4000000 in
set_option maxRecDepth 100000 in
theorem g_keptAt_N (l : Launch) (dC : Nat → ClassId) (dI : Nat → Nat → Nat) (hdo : Nat) (hra : Nat) (cR : ClassId) (df : Nat) (dn : Nat) (fr : Nat → Option Nat) (a1 : Int32) (hdn : dn ≤ 64) (hkN : atN dn fr a1 = none) : Met l y_D_keptAt k_D_keptAt ({ frames := 0, cells := 0, slots := 0, locals := 0 } : Room) (va_Pc [.ref hdo, .int a1] (pc_R (dC, dI) [(hdo, .inr (5, [.ref hra, .int (nI df), .int (nI dn)])), (hra, .inl (cR, 64, .inr (.inr (.inr (.inr (fr))))))] [(cR, .object R_V)])) (va_Sq (fun r => r = none)) 0 0 (fun _ => False) := by
  refine Met.ofW (cc := prog_2_method_5_code) (maxL := 2) (ret := (some (.object "TextKeeper$Revision"))) (by decide) rfl ?_
  intro p e s m args below meth c s₁ B hml hv
  obtain ⟨rfl, hP, hK, hN⟩ := hv
  have hx := B.exec
  have hb := B.bytes
  have hr := B.returns
  have hts := atoms_spec (ws := k_D_keptAt) B.pre
  have hw0 : ∀ w ∈ w0, w.before _ s = true := fun w h => hts w (List.mem_cons_of_mem _ h)
  have hown : s.vm.findClass R_D = some m.cls := findClass_of_methodNamed B.named
  have hlocks := B.notSynchronized
  have hP : va_P (dC, dI) vwCl [(hdo, .inr (5, [.ref hra, .int (nI df), .int (nI dn)])), (hra, .inl (cR, 64, .inr (.inr (.inr (.inr (fr))))))] s.heap := hP
  have hl := lv_entry ([.ref hdo, .int a1]) (n := 2) (Nat.le_of_ble_eq_true rfl)
  rw [lg_entry_eq]
  generalize (lg_sl ([.ref hdo, .int a1]) ++ List.replicate (2 - (lg_sl ([.ref hdo, .int a1])).length) Slot.unset).toArray = ls at hl ⊢
  have hl : lv_has ls 2 [(0, .ref hdo), (1, .int a1)] := hl
  refine lv_iload_n hx hb d_D_keptAt_0 rfl (lv_at hl 1 rfl) ?_
  refine lv_if_lt (tgt := 21) hx hb d_D_keptAt_1 (by decide) (fun c_1 => ?_) (fun c_1 => ?_)
  · refine lv_null hx hb d_D_keptAt_21 ?_
    exact W.aret (v := .null) hx hb hr (Or.inl ⟨_, rfl⟩) (Or.inl rfl) (fun t ht hW => ⟨none, rfl, rfl, ht⟩) (fun q h => by cases h) d_D_keptAt_22
  · refine lv_iload_n hx hb d_D_keptAt_4 rfl (lv_at hl 1 rfl) ?_
    refine lv_aload_n hx hb d_D_keptAt_5 rfl (lv_at hl 0 rfl) ?_
    refine va_get (D := (dC, dI)) (ci := 5) (v := .int (nI dn)) (C := R_D) (T := F_D) (N := 3) hx hb hw0 in_D hown hK hP 0 rfl rfl 2 (by decide) (hw0 (.fieldLink R_D 21 "TextKeeper$Document" "count" "I") wm_306) (fun _ h9 => h9) rfl d_D_keptAt_6 ?_
    refine lv_icmp_ge (tgt := 21) hx hb d_D_keptAt_9 (by decide) (fun c_2 => ?_) (fun c_2 => ?_)
    · refine lv_null hx hb d_D_keptAt_21 ?_
      exact W.aret (v := .null) hx hb hr (Or.inl ⟨_, rfl⟩) (Or.inl rfl) (fun t ht hW => ⟨none, rfl, rfl, ht⟩) (fun q h => by cases h) d_D_keptAt_22
    · refine lv_aload_n hx hb d_D_keptAt_12 rfl (lv_at hl 0 rfl) ?_
      refine va_get (D := (dC, dI)) (ci := 5) (v := .ref hra) (C := R_D) (T := F_D) (N := 3) hx hb hw0 in_D hown hK hP 0 rfl rfl 0 (by decide) (hw0 (.fieldLink R_D 11 "TextKeeper$Document" "revisions" "[LTextKeeper$Revision;") wm_304) (fun _ h9 => h9) rfl d_D_keptAt_13 ?_
      refine lv_iload_n hx hb d_D_keptAt_16 rfl (lv_at hl 1 rfl) ?_
      refine va_aldq hx hb hK hP 1 0 rfl rfl (x_inK hdn (by decide) c_1 c_2) d_D_keptAt_17 ?_
      refine W.eq (g2 := F0 m 18 ls [.null]) (by rw [show (fr) (Int32.toNatClampNeg a1) = none from (by have h9 := hkN; rw [atN, if_neg (fun q => q.elim c_1 c_2)] at h9; exact h9)]; rfl) ?_
      refine lv_goto (tgt := 22) hx hb d_D_keptAt_18 (by decide) ?_
      exact W.aret (v := .null) hx hb hr (Or.inl ⟨_, rfl⟩) (Or.inl rfl) (fun t ht hW => ⟨none, rfl, rfl, ht⟩) (fun q h => by cases h) d_D_keptAt_22
set_option maxHeartbeats 4000000 in
set_option maxRecDepth 100000 in
theorem g_keptAt_S (l : Launch) (dC : Nat → ClassId) (dI : Nat → Nat → Nat) (hdo : Nat) (hra : Nat) (cR : ClassId) (df : Nat) (dn : Nat) (fr : Nat → Option Nat) (a1 : Int32) (ha : Nat) (hdn : dn ≤ 64) (hkS : atN dn fr a1 = some ha) : Met l y_D_keptAt k_D_keptAt ({ frames := 0, cells := 0, slots := 0, locals := 0 } : Room) (va_Pc [.ref hdo, .int a1] (pc_R (dC, dI) [(hdo, .inr (5, [.ref hra, .int (nI df), .int (nI dn)])), (hra, .inl (cR, 64, .inr (.inr (.inr (.inr (fr))))))] [(cR, .object R_V)])) (va_Sq (fun r => r = some ha)) 0 0 (fun _ => False) := by
  refine Met.ofW (cc := prog_2_method_5_code) (maxL := 2) (ret := (some (.object "TextKeeper$Revision"))) (by decide) rfl ?_
  intro p e s m args below meth c s₁ B hml hv
  obtain ⟨rfl, hP, hK, hN⟩ := hv
  have hx := B.exec
  have hb := B.bytes
  have hr := B.returns
  have hts := atoms_spec (ws := k_D_keptAt) B.pre
  have hw0 : ∀ w ∈ w0, w.before _ s = true := fun w h => hts w (List.mem_cons_of_mem _ h)
  have hown : s.vm.findClass R_D = some m.cls := findClass_of_methodNamed B.named
  have hlocks := B.notSynchronized
  have hP : va_P (dC, dI) vwCl [(hdo, .inr (5, [.ref hra, .int (nI df), .int (nI dn)])), (hra, .inl (cR, 64, .inr (.inr (.inr (.inr (fr))))))] s.heap := hP
  have hl := lv_entry ([.ref hdo, .int a1]) (n := 2) (Nat.le_of_ble_eq_true rfl)
  rw [lg_entry_eq]
  generalize (lg_sl ([.ref hdo, .int a1]) ++ List.replicate (2 - (lg_sl ([.ref hdo, .int a1])).length) Slot.unset).toArray = ls at hl ⊢
  have hl : lv_has ls 2 [(0, .ref hdo), (1, .int a1)] := hl
  refine lv_iload_n hx hb d_D_keptAt_0 rfl (lv_at hl 1 rfl) ?_
  refine lv_if_lt (tgt := 21) hx hb d_D_keptAt_1 (by decide) (fun c_1 => absurd hkS (by rw [atN, if_pos (Or.inl c_1)]; exact fun q => by cases q)) (fun c_1 => ?_)
  refine lv_iload_n hx hb d_D_keptAt_4 rfl (lv_at hl 1 rfl) ?_
  refine lv_aload_n hx hb d_D_keptAt_5 rfl (lv_at hl 0 rfl) ?_
  refine va_get (D := (dC, dI)) (ci := 5) (v := .int (nI dn)) (C := R_D) (T := F_D) (N := 3) hx hb hw0 in_D hown hK hP 0 rfl rfl 2 (by decide) (hw0 (.fieldLink R_D 21 "TextKeeper$Document" "count" "I") wm_306) (fun _ h9 => h9) rfl d_D_keptAt_6 ?_
  refine lv_icmp_ge (tgt := 21) hx hb d_D_keptAt_9 (by decide) (fun c_2 => absurd hkS (by rw [atN, if_pos (Or.inr c_2)]; exact fun q => by cases q)) (fun c_2 => ?_)
  refine lv_aload_n hx hb d_D_keptAt_12 rfl (lv_at hl 0 rfl) ?_
  refine va_get (D := (dC, dI)) (ci := 5) (v := .ref hra) (C := R_D) (T := F_D) (N := 3) hx hb hw0 in_D hown hK hP 0 rfl rfl 0 (by decide) (hw0 (.fieldLink R_D 11 "TextKeeper$Document" "revisions" "[LTextKeeper$Revision;") wm_304) (fun _ h9 => h9) rfl d_D_keptAt_13 ?_
  refine lv_iload_n hx hb d_D_keptAt_16 rfl (lv_at hl 1 rfl) ?_
  refine va_aldq hx hb hK hP 1 0 rfl rfl (x_inK hdn (by decide) c_1 c_2) d_D_keptAt_17 ?_
  refine W.eq (g2 := F0 m 18 ls [.ref ha]) (by rw [show (fr) (Int32.toNatClampNeg a1) = some ha from (by have h9 := hkS; rw [atN, if_neg (fun q => q.elim c_1 c_2)] at h9; exact h9)]; rfl) ?_
  refine lv_goto (tgt := 22) hx hb d_D_keptAt_18 (by decide) ?_
  exact W.aret (v := .ref ha) hx hb hr (Or.inl ⟨_, rfl⟩) (Or.inr ⟨_, rfl⟩) (fun t ht hW => ⟨(some ha), rfl, rfl, ht⟩) (fun q h => by cases h) d_D_keptAt_22
set_option maxHeartbeats 4000000 in
set_option maxRecDepth 100000 in
theorem g_add (l : Launch) (dC : Nat → ClassId) (dI : Nat → Nat → Nat) (sz : Nat) (hdo : Nat) (hra : Nat) (cR : ClassId) (df : Nat) (dn : Nat) (fr : Nat → Option Nat) (hv : Nat) (v_piece : Value) (i_author : Int32) (i_sum : Int32) (hdn : dn < 64) : Met l y_D_add k_D_add ({ frames := 0, cells := 0, slots := 0, locals := 0 } : Room) (va_Pc [.ref hdo, .ref hv] (pc_E (dC, dI) [(hdo, .inr (5, [.ref hra, .int (nI df), .int (nI dn)])), (hra, .inl (cR, 64, .inr (.inr (.inr (.inr (fr)))))), (hv, .inr (6, [v_piece, .int i_author, .int i_sum]))] [(cR, .object R_V)] sz)) (va_Qv (fun (_ : Unit) => True) (fun (_ : Unit) t => at_E (dC, dI) (va_A [(hdo, .inr (5, [.ref hra, .int (nI df), .int (nI dn)])), (hra, .inl (cR, 64, .inr (.inr (.inr (.inr (fr)))))), (hv, .inr (6, [v_piece, .int i_author, .int i_sum]))] sz) [(hdo, .inr (5, [.ref hra, .int (nI df), .int (nI (dn + 1))])), (hra, .inl (cR, 64, .inr (.inr (.inr (.inr ((va_up fr dn (some hv)))))))), (hv, .inr (6, [v_piece, .int i_author, .int i_sum]))] [(cR, .object R_V)] t) (va_A [(hdo, .inr (5, [.ref hra, .int (nI df), .int (nI dn)])), (hra, .inl (cR, 64, .inr (.inr (.inr (.inr (fr)))))), (hv, .inr (6, [v_piece, .int i_author, .int i_sum]))] sz)) 0 0 (va_A [(hdo, .inr (5, [.ref hra, .int (nI df), .int (nI dn)])), (hra, .inl (cR, 64, .inr (.inr (.inr (.inr (fr)))))), (hv, .inr (6, [v_piece, .int i_author, .int i_sum]))] sz) := by
  refine Met.ofW (cc := prog_2_method_6_code) (maxL := 2) (ret := none) (by decide) rfl ?_
  intro p e s m args below meth c s₁ B hml hv
  obtain ⟨rfl, hsz, hP, hK, hD0, hN⟩ := hv
  have hx := B.exec
  have hb := B.bytes
  have hr := B.returns
  have hts := atoms_spec (ws := k_D_add) B.pre
  have hw0 : ∀ w ∈ w0, w.before _ s = true := fun w h => hts w (List.mem_cons_of_mem _ h)
  have hown : s.vm.findClass R_D = some m.cls := findClass_of_methodNamed B.named
  have hlocks := B.notSynchronized
  subst hsz
  have hD := hD0.self (sz := s.heap.size)
  generalize hAe : va_A [(hdo, .inr (5, [.ref hra, .int (nI df), .int (nI dn)])), (hra, .inl (cR, 64, .inr (.inr (.inr (.inr (fr)))))), (hv, .inr (6, [v_piece, .int i_author, .int i_sum]))] s.heap.size = A at hD ⊢
  have hA : ∀ q : Nat, s.heap.size ≤ q → A q := fun q h => by rw [← hAe]; exact Or.inr h
  have hS : va_S A s.heap s.heap [] := va_S.rf
  have hP : va_P (dC, dI) vwCl [(hdo, .inr (5, [.ref hra, .int (nI df), .int (nI dn)])), (hra, .inl (cR, 64, .inr (.inr (.inr (.inr (fr)))))), (hv, .inr (6, [v_piece, .int i_author, .int i_sum]))] s.heap := hP
  have hl := lv_entry ([.ref hdo, .ref hv]) (n := 2) (Nat.le_of_ble_eq_true rfl)
  rw [lg_entry_eq]
  generalize (lg_sl ([.ref hdo, .ref hv]) ++ List.replicate (2 - (lg_sl ([.ref hdo, .ref hv])).length) Slot.unset).toArray = ls at hl ⊢
  have hl : lv_has ls 2 [(0, .ref hdo), (1, .ref hv)] := hl
  refine lv_aload_n hx hb d_D_add_0 rfl (lv_at hl 0 rfl) ?_
  refine va_get (D := (dC, dI)) (ci := 5) (v := .int (nI dn)) (C := R_D) (T := F_D) (N := 3) hx hb hw0 in_D hown hK hP 0 rfl rfl 2 (by decide) (hw0 (.fieldLink R_D 21 "TextKeeper$Document" "count" "I") wm_306) (fun _ h9 => h9) rfl d_D_add_1 ?_
  refine lv_bipush (v := 64) hx hb d_D_add_4 (by decide +kernel) ?_
  refine lv_icmp_ge (tgt := 29) hx hb d_D_add_6 (by decide) (fun c_1 => absurd c_1 (nI_ge hdn (by decide))) (fun c_1 => ?_)
  refine lv_aload_n hx hb d_D_add_9 rfl (lv_at hl 0 rfl) ?_
  refine va_get (D := (dC, dI)) (ci := 5) (v := .ref hra) (C := R_D) (T := F_D) (N := 3) hx hb hw0 in_D hown hK hP 0 rfl rfl 0 (by decide) (hw0 (.fieldLink R_D 11 "TextKeeper$Document" "revisions" "[LTextKeeper$Revision;") wm_304) (fun _ h9 => h9) rfl d_D_add_10 ?_
  refine lv_aload_n hx hb d_D_add_13 rfl (lv_at hl 0 rfl) ?_
  refine va_get (D := (dC, dI)) (ci := 5) (v := .int (nI dn)) (C := R_D) (T := F_D) (N := 3) hx hb hw0 in_D hown hK hP 0 rfl rfl 2 (by decide) (hw0 (.fieldLink R_D 21 "TextKeeper$Document" "count" "I") wm_306) (fun _ h9 => h9) rfl d_D_add_14 ?_
  refine lv_aload_n hx hb d_D_add_17 rfl (lv_at hl 1 rfl) ?_
  refine va_astq hx hb hK hP hD hS 1 0 2 6 rfl rfl rfl rfl (vp_in_nI hdn (by decide)) d_D_add_18 (fun H locs hP hD hS => ?_)
  replace hP : va_P (dC, dI) vwCl [(hdo, .inr (5, [.ref hra, .int (nI df), .int (nI dn)])), (hra, .inl (cR, 64, .inr (.inr (.inr (.inr (va_up (fr) (Int32.toNatClampNeg (nI dn)) (some hv))))))), (hv, .inr (6, [v_piece, .int i_author, .int i_sum]))] H := hP
  replace hD : va_D A [(hdo, .inr (5, [.ref hra, .int (nI df), .int (nI dn)])), (hra, .inl (cR, 64, .inr (.inr (.inr (.inr (va_up (fr) (Int32.toNatClampNeg (nI dn)) (some hv))))))), (hv, .inr (6, [v_piece, .int i_author, .int i_sum]))] := hD
  have eS : va_up (fr) (Int32.toNatClampNeg (nI dn)) (some hv) = va_up fr dn (some hv) := by rw [nI_clamp (by omega)]
  rw [eS] at hP hD
  refine lv_aload_n hx hb d_D_add_19 rfl (lv_at hl 0 rfl) ?_
  refine lv_dup hx hb d_D_add_20 rfl ?_
  refine va_get (D := (dC, dI)) (ci := 5) (v := .int (nI dn)) (C := R_D) (T := F_D) (N := 3) hx hb hw0 in_D hown hK hP 0 rfl rfl 2 (by decide) (hw0 (.fieldLink R_D 21 "TextKeeper$Document" "count" "I") wm_306) (fun _ h9 => h9) rfl d_D_add_21 ?_
  refine lv_iconst (v := 1) hx hb d_D_add_24 (by decide) ?_
  refine lv_iadd hx hb d_D_add_25 ?_
  refine lv_topi (fun x_2 ex_2 => ?_)
  obtain rfl : x_2 = (nI (dn + 1)) := by rw [ex_2]; exact nI_1 dn
  clear ex_2
  refine va_put (D := (dC, dI)) (ci := 5) (v := .int (nI (dn + 1))) (ty := .int) (C := R_D) (T := F_D) (N := 3) hx hb hw0 in_D ft_D tk_D nk_D hown hK hP hD hS 0 rfl rfl 2 (by decide) (hw0 (.fieldLink R_D 21 "TextKeeper$Document" "count" "I") wm_306) (fun _ h9 => h9) rfl (by decide +kernel) rfl rfl (Nat.le_of_ble_eq_true rfl) d_D_add_26 (fun H locs hP hD hS => ?_)
  replace hP : va_P (dC, dI) vwCl [(hdo, .inr (5, [.ref hra, .int (nI df), .int (nI (dn + 1))])), (hra, .inl (cR, 64, .inr (.inr (.inr (.inr ((va_up fr dn (some hv)))))))), (hv, .inr (6, [v_piece, .int i_author, .int i_sum]))] H := hP
  replace hD : va_D A [(hdo, .inr (5, [.ref hra, .int (nI df), .int (nI (dn + 1))])), (hra, .inl (cR, 64, .inr (.inr (.inr (.inr ((va_up fr dn (some hv)))))))), (hv, .inr (6, [v_piece, .int i_author, .int i_sum]))] := hD
  have hP9 := hP.sub (ws' := [(hdo, .inr (5, [.ref hra, .int (nI df), .int (nI (dn + 1))])), (hra, .inl (cR, 64, .inr (.inr (.inr (.inr ((va_up fr dn (some hv)))))))), (hv, .inr (6, [v_piece, .int i_author, .int i_sum]))]) [0, 1, 2] rfl
  have hD9 := hD.sub (ws' := [(hdo, .inr (5, [.ref hra, .int (nI df), .int (nI (dn + 1))])), (hra, .inl (cR, 64, .inr (.inr (.inr (.inr ((va_up fr dn (some hv)))))))), (hv, .inr (6, [v_piece, .int i_author, .int i_sum]))]) [0, 1, 2] (by decide) rfl
  have hK9 := hK.sub (tys' := [(cR, .object R_V)]) [0] rfl
  exact W.vret hx hb hr (fun t ht hW => ⟨⟨(), rfl, trivial, by rw [ht]; exact hP9, va_K.moved hW.alike hK9, hD9⟩, hS.F ht⟩) hS.2.2 d_D_add_29
set_option maxHeartbeats 4000000 in
set_option maxRecDepth 100000 in
theorem lq_cut {p : Program} {l : Launch} {e : Env} {s : State} {m : MethodId} {args : Array Value} {below : List Frame} {meth : Method} {c : Code} {dC : Nat → ClassId} {dI : Nat → Nat → Nat} {A : Nat → Prop} {Q : State → Prop} (hdo : Nat) (hra : Nat) (cR : ClassId) (dn : Nat) (fr : Nat → Option Nat) (nf : Nat) (hnf : nf < 64)
    (hx : p.tables.exec = Jvm.exec) (hb : c.code = prog_2_method_7_code) (hml : c.maxLocals = 4) (hown : s.vm.findClass R_D = some m.cls) (hw0 : ∀ w ∈ w0, w.before args s = true) (hN : nw_ok s) (hK : va_K (dC, dI) vwCl [(cR, .object R_V)] s) (hA : ∀ q : Nat, s.heap.size ≤ q → A q)
    (kk : ∀ (H : Heap) (locs : List Loc), va_P (dC, dI) vwCl [(hdo, .inr (5, [.ref hra, .int (nI nf), .int (nI dn)])), (hra, .inl (cR, 64, .inr (.inr (.inr (.inr ((cutA nf fr (nf - nf))))))))] H → va_D A [(hdo, .inr (5, [.ref hra, .int (nI nf), .int (nI dn)])), (hra, .inl (cR, 64, .inr (.inr (.inr (.inr ((cutA nf fr (nf - nf))))))))] → va_S A s.heap H locs → ∀ ls : Array Slot, lv_has ls 4 [(3, .int (nwI (nf - nf))), (2, .int (wkI nf (nf - nf))), (0, .ref hdo), (1, .int (nI nf))] → W p l e ({ frames := 1, cells := 0, slots := 0, locals := 32 } : Room) s m args below meth c H locs 0 0 Q (F0 m 44 ls [])) :
    ∀ (n j : Nat), j ≤ nf → nf < j + n → ∀ (H : Heap) (locs : List Loc), va_P (dC, dI) vwCl [(hdo, .inr (5, [.ref hra, .int (nI nf), .int (nI dn)])), (hra, .inl (cR, 64, .inr (.inr (.inr (.inr ((cutA nf fr (nf - j))))))))] H → va_D A [(hdo, .inr (5, [.ref hra, .int (nI nf), .int (nI dn)])), (hra, .inl (cR, 64, .inr (.inr (.inr (.inr ((cutA nf fr (nf - j))))))))] → va_S A s.heap H locs → ∀ ls : Array Slot, lv_has ls 4 [(3, .int (nwI (nf - j))), (2, .int (wkI nf (nf - j))), (0, .ref hdo), (1, .int (nI nf))] → W p l e ({ frames := 1, cells := 0, slots := 0, locals := 32 } : Room) s m args below meth c H locs 0 0 Q (F0 m 14 ls []) := by
  intro n
  induction n with
  | zero => intro j h1 h2; exact absurd h2 (by omega)
  | succ n ih =>
    intro j hj hn   H locs hP hD hS ls hl
    refine lv_iload_n hx hb d_D_cutBefore_14 rfl (lv_at hl 0 rfl) ?_
    refine lv_if_lt (tgt := 44) hx hb d_D_cutBefore_15 (by decide) (fun c_1 => ?_) (fun c_1 => ?_)
    · obtain rfl : j = nf := (by have h8 := c_1; rcases Nat.eq_zero_or_pos (nf - j) with z | z; omega; obtain ⟨k9, hk9⟩ : ∃ z, nf - j = z + 1 := ⟨nf - j - 1, by omega⟩; rw [hk9] at h8; exact absurd h8 (nI_pos (by omega)))
      exact kk _ _ hP hD hS ls (lv_sub hl [0, 1, 2, 3] rfl)
    · obtain ⟨k9, hk9⟩ : ∃ z, nf - j = z + 1 := ⟨nf - j - 1, by have h8 : ¬ nf - j = 0 := (fun z => c_1 (by rw [z]; decide)); omega⟩; have hlt : j < nf := (by omega); have ek9 : nwI (nf - j) = nI k9 := (by rw [hk9]; rfl)
      refine lv_iload_n hx hb d_D_cutBefore_18 rfl (lv_at hl 0 rfl) ?_
      refine lv_iload_n hx hb d_D_cutBefore_19 rfl (lv_at hl 1 rfl) ?_
      refine lv_icmp_ne (tgt := 31) hx hb d_D_cutBefore_20 (by decide) (fun c_2 => ?_) (fun c_2 => ?_)
      · refine lv_aload_n hx hb d_D_cutBefore_31 rfl (lv_at hl 2 rfl) ?_
        refine va_get (D := (dC, dI)) (ci := 5) (v := .ref hra) (C := R_D) (T := F_D) (N := 3) hx hb hw0 in_D hown hK hP 0 rfl rfl 0 (by decide) (hw0 (.fieldLink R_D 11 "TextKeeper$Document" "revisions" "[LTextKeeper$Revision;") wm_304) (fun _ h9 => h9) rfl d_D_cutBefore_32 ?_
        refine lv_iload_n hx hb d_D_cutBefore_35 rfl (lv_at hl 0 rfl) ?_
        refine lv_null hx hb d_D_cutBefore_36 ?_
        refine va_astqN hx hb hK hP hD hS 1 0 rfl rfl (by rw [ek9]; exact vp_in_nI (by omega) (by decide)) d_D_cutBefore_37 (fun H locs hP hD hS => ?_)
        replace hP : va_P (dC, dI) vwCl [(hdo, .inr (5, [.ref hra, .int (nI nf), .int (nI dn)])), (hra, .inl (cR, 64, .inr (.inr (.inr (.inr (va_up ((cutA nf fr (nf - j))) (Int32.toNatClampNeg (nwI (nf - j))) none))))))] H := hP
        replace hD : va_D A [(hdo, .inr (5, [.ref hra, .int (nI nf), .int (nI dn)])), (hra, .inl (cR, 64, .inr (.inr (.inr (.inr (va_up ((cutA nf fr (nf - j))) (Int32.toNatClampNeg (nwI (nf - j))) none))))))] := hD
        have eS : va_up ((cutA nf fr (nf - j))) (Int32.toNatClampNeg (nwI (nf - j))) none = cutA nf fr (nf - (j + 1)) := by rw [ek9, nI_clamp (by omega), show nf - (j + 1) = k9 by omega]; exact cut_no hk9 (by omega) (fun q => c_2 (by rw [ek9, hk9]; exact wk_eq q))
        rw [eS] at hP hD
        obtain ⟨x_3, ex_3⟩ : ∃ y : Int32, y = (nwI (nf - j)) + (-1) := ⟨_, rfl⟩
        refine lv_iinc (v := x_3) (lv' := [(3, .int x_3), (2, .int (wkI nf (nf - j))), (0, .ref hdo), (1, .int (nI nf))]) hx hb d_D_cutBefore_38 hl (k := 0) rfl (by rw [ex_3]; rfl) (by decide) rfl (fun ls hl => ?_)
        refine lv_goto (tgt := 14) hx hb d_D_cutBefore_41 (by decide) ?_
        have e3 : x_3 = nwI (nf - (j + 1)) := by rw [ex_3, ek9, show nf - (j + 1) = k9 by omega]; exact nwI_dec k9
        have e2 : (wkI nf (nf - j)) = wkI nf (nf - (j + 1)) := by rw [hk9, show nf - (j + 1) = k9 by omega]; exact wk_no hnf (by omega) (fun q => c_2 (by rw [ek9, hk9]; exact wk_eq q))
        exact ih (j + 1) hlt (by omega) _ _ hP hD hS ls (by rw [← e3, ← e2]; exact (lv_sub hl [0, 1, 2, 3] rfl))
      · refine lv_iload_n hx hb d_D_cutBefore_23 rfl (lv_at hl 1 rfl) ?_
        have hPc := hP.sub (ws' := []) [] rfl
        have hKc := hK.sub (tys' := []) [] rfl
        refine ps_i (va_runSN (As := [.int (wkI nf (nf - j))]) (rest := []) ⟨hx, hb, hml, hown, hw0⟩ (g_baseOf l dC dI (wkI nf (nf - j))) ⟨va_cnB 1 hw0 (gd_Im wm_307) rfl rfl rfl (hN.1 (.methodLinkNest R_D 24 y_K_baseOf "TextKeeper") (List.mem_of_getElem? (i := 8) rfl)) (hw0 (.initialized R_K) wm_308) (by decide +kernel) ⟨by decide +kernel, by decide +kernel⟩, (hw0 (.static y_K_baseOf) wm_309), trivial⟩ (prS_R hPc hKc hN) rfl rfl hl.1 rfl (lv_room (Nat.le_of_ble_eq_true rfl)) d_D_cutBefore_24 ⟨by decide +kernel, by decide +kernel⟩) (fun r_4 hr_4 => ?_)
        obtain rfl : r_4 = ((wkI nf (nf - j)) &&& ((wkI nf (nf - j)) - 1)) := hr_4
        refine lv_istore_n (lv' := [(2, .int ((wkI nf (nf - j)) &&& ((wkI nf (nf - j)) - 1))), (3, .int (nwI (nf - j))), (0, .ref hdo), (1, .int (nI nf))]) hx hb d_D_cutBefore_27 rfl hl (by decide) rfl (fun ls hl => ?_)
        refine lv_goto (tgt := 38) hx hb d_D_cutBefore_28 (by decide) ?_
        obtain ⟨x_5, ex_5⟩ : ∃ y : Int32, y = (nwI (nf - j)) + (-1) := ⟨_, rfl⟩
        refine lv_iinc (v := x_5) (lv' := [(3, .int x_5), (2, .int ((wkI nf (nf - j)) &&& ((wkI nf (nf - j)) - 1))), (0, .ref hdo), (1, .int (nI nf))]) hx hb d_D_cutBefore_38 hl (k := 1) rfl (by rw [ex_5]; rfl) (by decide) rfl (fun ls hl => ?_)
        refine lv_goto (tgt := 14) hx hb d_D_cutBefore_41 (by decide) ?_
        have e3 : x_5 = nwI (nf - (j + 1)) := by rw [ex_5, ek9, show nf - (j + 1) = k9 by omega]; exact nwI_dec k9
        have e2 : ((wkI nf (nf - j)) &&& ((wkI nf (nf - j)) - 1)) = wkI nf (nf - (j + 1)) := by rw [hk9, show nf - (j + 1) = k9 by omega]; exact wk_yes hnf (by omega) (by have h9 := c_2; rw [ek9, hk9] at h9; exact h9)
        have eS : cutA nf fr (nf - j) = cutA nf fr (nf - (j + 1)) := by rw [hk9, show nf - (j + 1) = k9 by omega]; exact cut_yes (wk_eqv hnf (by omega) (by have h9 := c_2; rw [ek9, hk9] at h9; exact h9))
        rw [eS] at hP hD
        exact ih (j + 1) hlt (by omega) _ _ hP hD hS ls (by rw [← e3, ← e2]; exact (lv_sub hl [0, 1, 2, 3] rfl))
set_option maxHeartbeats 4000000 in
set_option maxRecDepth 100000 in
theorem g_cutBefore (l : Launch) (dC : Nat → ClassId) (dI : Nat → Nat → Nat) (sz : Nat) (hdo : Nat) (hra : Nat) (cR : ClassId) (df : Nat) (dn : Nat) (fr : Nat → Option Nat) (nf : Nat) (hnf : nf < 64) : Met l y_D_cutBefore k_D_cutBefore ({ frames := 1, cells := 0, slots := 0, locals := 32 } : Room) (va_Pc [.ref hdo, .int (nI nf)] (pc_E (dC, dI) [(hdo, .inr (5, [.ref hra, .int (nI df), .int (nI dn)])), (hra, .inl (cR, 64, .inr (.inr (.inr (.inr (fr))))))] [(cR, .object R_V)] sz)) (va_Qv (fun (_ : Unit) => True) (fun (_ : Unit) t => at_E (dC, dI) (va_A [(hdo, .inr (5, [.ref hra, .int (nI df), .int (nI dn)])), (hra, .inl (cR, 64, .inr (.inr (.inr (.inr (fr))))))] sz) [(hdo, .inr (5, [.ref hra, .int (nI nf), .int (nI dn)])), (hra, .inl (cR, 64, .inr (.inr (.inr (.inr ((cutA nf fr 0)))))))] [(cR, .object R_V)] t) (va_A [(hdo, .inr (5, [.ref hra, .int (nI df), .int (nI dn)])), (hra, .inl (cR, 64, .inr (.inr (.inr (.inr (fr))))))] sz)) 0 0 (va_A [(hdo, .inr (5, [.ref hra, .int (nI df), .int (nI dn)])), (hra, .inl (cR, 64, .inr (.inr (.inr (.inr (fr))))))] sz) := by
  refine Met.ofW (cc := prog_2_method_7_code) (maxL := 4) (ret := none) (by decide) rfl ?_
  intro p e s m args below meth c s₁ B hml hv
  obtain ⟨rfl, hsz, hP, hK, hD0, hN⟩ := hv
  have hx := B.exec
  have hb := B.bytes
  have hr := B.returns
  have hts := atoms_spec (ws := k_D_cutBefore) B.pre
  have hw0 : ∀ w ∈ w0, w.before _ s = true := fun w h => hts w (List.mem_cons_of_mem _ h)
  have hown : s.vm.findClass R_D = some m.cls := findClass_of_methodNamed B.named
  have hlocks := B.notSynchronized
  subst hsz
  have hD := hD0.self (sz := s.heap.size)
  generalize hAe : va_A [(hdo, .inr (5, [.ref hra, .int (nI df), .int (nI dn)])), (hra, .inl (cR, 64, .inr (.inr (.inr (.inr (fr))))))] s.heap.size = A at hD ⊢
  have hA : ∀ q : Nat, s.heap.size ≤ q → A q := fun q h => by rw [← hAe]; exact Or.inr h
  have hS : va_S A s.heap s.heap [] := va_S.rf
  have hP : va_P (dC, dI) vwCl [(hdo, .inr (5, [.ref hra, .int (nI df), .int (nI dn)])), (hra, .inl (cR, 64, .inr (.inr (.inr (.inr (fr))))))] s.heap := hP
  have hl := lv_entry ([.ref hdo, .int (nI nf)]) (n := 4) (Nat.le_of_ble_eq_true rfl)
  rw [lg_entry_eq]
  generalize (lg_sl ([.ref hdo, .int (nI nf)]) ++ List.replicate (4 - (lg_sl ([.ref hdo, .int (nI nf)])).length) Slot.unset).toArray = ls at hl ⊢
  have hl : lv_has ls 4 [(0, .ref hdo), (1, .int (nI nf))] := hl
  refine lv_aload_n hx hb d_D_cutBefore_0 rfl (lv_at hl 0 rfl) ?_
  refine lv_iload_n hx hb d_D_cutBefore_1 rfl (lv_at hl 1 rfl) ?_
  refine va_put (D := (dC, dI)) (ci := 5) (v := .int (nI nf)) (ty := .int) (C := R_D) (T := F_D) (N := 3) hx hb hw0 in_D ft_D tk_D nk_D hown hK hP hD hS 0 rfl rfl 1 (by decide) (hw0 (.fieldLink R_D 17 "TextKeeper$Document" "first" "I") wm_305) (fun _ h9 => h9) rfl (by decide +kernel) rfl rfl (Nat.le_of_ble_eq_true rfl) d_D_cutBefore_2 (fun H locs hP hD hS => ?_)
  replace hP : va_P (dC, dI) vwCl [(hdo, .inr (5, [.ref hra, .int (nI nf), .int (nI dn)])), (hra, .inl (cR, 64, .inr (.inr (.inr (.inr (fr))))))] H := hP
  replace hD : va_D A [(hdo, .inr (5, [.ref hra, .int (nI nf), .int (nI dn)])), (hra, .inl (cR, 64, .inr (.inr (.inr (.inr (fr))))))] := hD
  refine lv_iload_n hx hb d_D_cutBefore_5 rfl (lv_at hl 1 rfl) ?_
  have hPc := hP.sub (ws' := []) [] rfl
  have hKc := hK.sub (tys' := []) [] rfl
  refine ps_i (va_runSN (As := [.int (nI nf)]) (rest := []) ⟨hx, hb, hml, hown, hw0⟩ (g_baseOf l dC dI (nI nf)) ⟨va_cnB 1 hw0 (gd_Im wm_307) rfl rfl rfl (hN.1 (.methodLinkNest R_D 24 y_K_baseOf "TextKeeper") (List.mem_of_getElem? (i := 8) rfl)) (hw0 (.initialized R_K) wm_308) (by decide +kernel) ⟨by decide +kernel, by decide +kernel⟩, (hw0 (.static y_K_baseOf) wm_309), trivial⟩ (prS_R hPc hKc hN) rfl rfl hl.1 rfl (lv_room (Nat.le_of_ble_eq_true rfl)) d_D_cutBefore_6 ⟨by decide +kernel, by decide +kernel⟩) (fun r_1 hr_1 => ?_)
  obtain rfl : r_1 = ((nI nf) &&& ((nI nf) - 1)) := hr_1
  refine lv_istore_n (lv' := [(2, .int ((nI nf) &&& ((nI nf) - 1))), (0, .ref hdo), (1, .int (nI nf))]) hx hb d_D_cutBefore_9 rfl hl (by decide) rfl (fun ls hl => ?_)
  refine lv_iload_n hx hb d_D_cutBefore_10 rfl (lv_at hl 2 rfl) ?_
  refine lv_iconst (v := 1) hx hb d_D_cutBefore_11 (by decide) ?_
  refine lv_isub hx hb d_D_cutBefore_12 ?_
  refine lv_topi (fun x_2 ex_2 => ?_)
  refine lv_istore_n (lv' := [(3, .int x_2), (2, .int ((nI nf) &&& ((nI nf) - 1))), (0, .ref hdo), (1, .int (nI nf))]) hx hb d_D_cutBefore_13 rfl hl (by decide) rfl (fun ls hl => ?_)
  have e3 : x_2 = nwI (nf - 0) := by rw [ex_2]; exact nwI_dec1 nf
  have e2 : ((nI nf) &&& ((nI nf) - 1)) = wkI nf (nf - 0) := wk_start hnf
  have eS : fr = cutA nf fr (nf - 0) := (cut_start fr).symm
  rw [eS] at hP hD
  refine lq_cut hdo hra cR dn fr nf hnf hx hb hml hown hw0 hN hK hA (fun H locs hP hD hS ls hl => ?_) (nf + 1) 0 (by omega) (by omega) _ _ hP hD hS ls (by rw [← e3, ← e2]; exact (lv_sub hl [0, 1, 2, 3] rfl))
  have hl := lv_sub hl [2] rfl
  have hl : lv_has ls 4 [(0, .ref hdo)] := hl
  rw [Nat.sub_self] at hP hD
  have hP9 := hP.sub (ws' := [(hdo, .inr (5, [.ref hra, .int (nI nf), .int (nI dn)])), (hra, .inl (cR, 64, .inr (.inr (.inr (.inr ((cutA nf fr 0)))))))]) [0, 1] rfl
  have hD9 := hD.sub (ws' := [(hdo, .inr (5, [.ref hra, .int (nI nf), .int (nI dn)])), (hra, .inl (cR, 64, .inr (.inr (.inr (.inr ((cutA nf fr 0)))))))]) [0, 1] (by decide) rfl
  have hK9 := hK.sub (tys' := [(cR, .object R_V)]) [0] rfl
  exact W.vret hx hb hr (fun t ht hW => ⟨⟨(), rfl, trivial, by rw [ht]; exact hP9, va_K.moved hW.alike hK9, hD9⟩, hS.F ht⟩) hS.2.2 d_D_cutBefore_44
set_option maxHeartbeats 4000000 in
set_option maxRecDepth 100000 in
theorem lq_cbk {p : Program} {l : Launch} {e : Env} {s : State} {m : MethodId} {args : Array Value} {below : List Frame} {meth : Method} {c : Code} {dC : Nat → ClassId} {dI : Nat → Nat → Nat} {Q : State → Prop} {H : Heap} {locs : List Loc} (hdo : Nat) (hra : Nat) (cR : ClassId) (df : Nat) (dn : Nat) (cB : ClassId) (rv : Nat → Option Rc) (pl : va_W) (hdn : dn ≤ 64) (hpl : plR cB rv pl) (hok : rvOk rv)
    (hx : p.tables.exec = Jvm.exec) (hb : c.code = prog_2_method_8_code) (hml : c.maxLocals = 3) (hown : s.vm.findClass R_D = some m.cls) (hw0 : ∀ w ∈ w0, w.before args s = true) (hN : nw_ok s) (hK : va_K (dC, dI) vwCl [(cR, .object R_V), (cB, .byte)] s) (hP : va_P (dC, dI) vwCl (([(hdo, .inr (5, [.ref hra, .int (nI df), .int (nI dn)])), (hra, .inl (cR, 64, .inr (.inr (.inr (.inr ((rvA rv)))))))] : va_W) ++ pl) H)
    (kk : ∀ ls : Array Slot, lv_has ls 3 [(2, .int (nI dn)), (1, .int (nI (cbk (rvP rv) dn))), (0, .ref hdo)] → W p l e ({ frames := 1, cells := 0, slots := 0, locals := 20 } : Room) s m args below meth c H locs 0 0 Q (F0 m 43 ls [])) :
    ∀ (n j : Nat), j ≤ dn → dn < j + n → ∀ ls : Array Slot, lv_has ls 3 [(2, .int (nI j)), (1, .int (nI (cbk (rvP rv) j))), (0, .ref hdo)] → W p l e ({ frames := 1, cells := 0, slots := 0, locals := 20 } : Room) s m args below meth c H locs 0 0 Q (F0 m 4 ls []) := by
  intro n
  induction n with
  | zero => intro j  h1 h2; exact absurd h2 (by omega)
  | succ n ih =>
    intro j  hj hn  ls hl
    refine lv_iload_n hx hb d_D_countBlocks_4 rfl (lv_at hl 0 rfl) ?_
    refine lv_aload_n hx hb d_D_countBlocks_5 rfl (lv_at hl 2 rfl) ?_
    refine va_get (D := (dC, dI)) (ci := 5) (v := .int (nI dn)) (C := R_D) (T := F_D) (N := 3) hx hb hw0 in_D hown hK hP 0 rfl rfl 2 (by decide) (hw0 (.fieldLink R_D 21 "TextKeeper$Document" "count" "I") wm_306) (fun _ h9 => h9) rfl d_D_countBlocks_6 ?_
    refine lv_icmp_ge (tgt := 43) hx hb d_D_countBlocks_9 (by decide) (fun c_1 => ?_) (fun c_1 => ?_)
    · obtain rfl : j = dn := x_geN (by omega) hj c_1
      exact kk ls (lv_sub hl [0, 1, 2] rfl)
    · have hlt : j < dn := x_ltN (by omega) hj c_1
      rcases hq9 : rv j with _ | ⟨a9, pa9, np9, fp9, S9, au9, sm9⟩
      · have hn9 := rvA_n hq9
        refine lv_aload_n hx hb d_D_countBlocks_12 rfl (lv_at hl 2 rfl) ?_
        refine va_get (D := (dC, dI)) (ci := 5) (v := .ref hra) (C := R_D) (T := F_D) (N := 3) hx hb hw0 in_D hown hK hP 0 rfl rfl 0 (by decide) (hw0 (.fieldLink R_D 11 "TextKeeper$Document" "revisions" "[LTextKeeper$Revision;") wm_304) (fun _ h9 => h9) rfl d_D_countBlocks_13 ?_
        refine lv_iload_n hx hb d_D_countBlocks_16 rfl (lv_at hl 0 rfl) ?_
        refine va_aldq hx hb hK hP 1 0 rfl rfl (vp_in_nI (by omega) (by decide)) d_D_countBlocks_17 ?_
        refine W.eq (g2 := F0 m 18 ls [.null]) (by rw [show ((rvA rv)) (Int32.toNatClampNeg (nI j)) = none from (by rw [nI_clamp (by omega)]; exact hn9)]; rfl) ?_
        refine lv_ifnullN (tgt := 37) hx hb d_D_countBlocks_18 (by decide) ?_
        refine lv_iinc (v := nI (j + 1)) (lv' := [(2, .int (nI (j + 1))), (1, .int (nI (cbk (rvP rv) j))), (0, .ref hdo)]) hx hb d_D_countBlocks_37 hl (k := 0) rfl (nI_1 j) (by decide) rfl (fun ls hl => ?_)
        refine lv_goto (tgt := 4) hx hb d_D_countBlocks_40 (by decide) ?_
        exact ih (j + 1) hlt (by omega) ls (by rw [cbk_n (rvP_n hq9)]; exact (lv_sub hl [0, 1, 2] rfl))
      · have hn9 := rvA_s hq9
        obtain ⟨pl9, hp9⟩ := hpl j _ (by omega) hq9
        have hP := hP.perm (pl_take hp9)
        replace hP : va_P (dC, dI) vwCl (([(hdo, .inr (5, [.ref hra, .int (nI df), .int (nI dn)])), (hra, .inl (cR, 64, .inr (.inr (.inr (.inr ((rvA rv))))))), (a9, .inr (6, [.ref pa9, .int au9, .int sm9])), (pa9, .inl (cB, np9, .inl (fp9)))] : va_W) ++ pl9) H := hP
        have ho9 := hok j _ hq9
        have hnp9 : np9 ≤ 1024 := ho9.2
        refine lv_aload_n hx hb d_D_countBlocks_12 rfl (lv_at hl 2 rfl) ?_
        refine va_get (D := (dC, dI)) (ci := 5) (v := .ref hra) (C := R_D) (T := F_D) (N := 3) hx hb hw0 in_D hown hK hP 0 rfl rfl 0 (by decide) (hw0 (.fieldLink R_D 11 "TextKeeper$Document" "revisions" "[LTextKeeper$Revision;") wm_304) (fun _ h9 => h9) rfl d_D_countBlocks_13 ?_
        refine lv_iload_n hx hb d_D_countBlocks_16 rfl (lv_at hl 0 rfl) ?_
        refine va_aldq hx hb hK hP 1 0 rfl rfl (vp_in_nI (by omega) (by decide)) d_D_countBlocks_17 ?_
        refine W.eq (g2 := F0 m 18 ls [.ref a9]) (by rw [show ((rvA rv)) (Int32.toNatClampNeg (nI j)) = some a9 from (by rw [nI_clamp (by omega)]; exact hn9)]; rfl) ?_
        refine lv_ifnull hx hb d_D_countBlocks_18 ?_
        refine lv_iload_n hx hb d_D_countBlocks_21 rfl (lv_at hl 1 rfl) ?_
        refine lv_aload_n hx hb d_D_countBlocks_22 rfl (lv_at hl 2 rfl) ?_
        refine va_get (D := (dC, dI)) (ci := 5) (v := .ref hra) (C := R_D) (T := F_D) (N := 3) hx hb hw0 in_D hown hK hP 0 rfl rfl 0 (by decide) (hw0 (.fieldLink R_D 11 "TextKeeper$Document" "revisions" "[LTextKeeper$Revision;") wm_304) (fun _ h9 => h9) rfl d_D_countBlocks_23 ?_
        refine lv_iload_n hx hb d_D_countBlocks_26 rfl (lv_at hl 0 rfl) ?_
        refine va_aldq hx hb hK hP 1 0 rfl rfl (vp_in_nI (by omega) (by decide)) d_D_countBlocks_27 ?_
        refine W.eq (g2 := F0 m 28 ls [.ref a9, .int (nI (cbk (rvP rv) j))]) (by rw [show ((rvA rv)) (Int32.toNatClampNeg (nI j)) = some a9 from (by rw [nI_clamp (by omega)]; exact hn9)]; rfl) ?_
        refine va_getN (D := (dC, dI)) (ci := 6) (v := .ref pa9) (C := R_V) (T := F_V) (N := 3) hx hb hw0 in_V hown hK hP 2 rfl rfl 0 (by decide) (va_Nw.use rfl (hN.1 (.fieldLinkNest R_D 28 "TextKeeper$Revision" "piece" "[B" "TextKeeper") (List.mem_of_getElem? (i := 9) rfl))) (fun _ h9 => h9) rfl d_D_countBlocks_28 ?_
        refine va_alen (v := nI np9) hx hb hK hP 3 1 rfl rfl (rfl) d_D_countBlocks_31 ?_
        have hPc := hP.sub (ws' := []) [] rfl
        have hKc := hK.sub (tys' := []) [] rfl
        refine ps_i (va_runSN (As := [.int (nI np9)]) (rest := [.int (nI (cbk (rvP rv) j))]) ⟨hx, hb, hml, hown, hw0⟩ (g_blocksFor l dC dI np9 (by first | assumption | decide | omega)) ⟨va_cnB 1 hw0 (gd_Im wm_310) rfl rfl rfl (hN.1 (.methodLinkNest R_D 32 y_K_blocksFor "TextKeeper") (List.mem_of_getElem? (i := 10) rfl)) (hw0 (.initialized R_K) wm_308) (by decide +kernel) ⟨by decide +kernel, by decide +kernel⟩, (hw0 (.static y_K_blocksFor) wm_311), trivial⟩ (prS_R hPc hKc hN) rfl rfl hl.1 rfl (lv_room (Nat.le_of_ble_eq_true rfl)) d_D_countBlocks_32 ⟨by decide +kernel, by decide +kernel⟩) (fun r_2 hr_2 => ?_)
        obtain rfl : r_2 = (nI ((np9 + 31) / 32)) := hr_2
        refine lv_iadd hx hb d_D_countBlocks_35 ?_
        refine lv_topi (fun x_3 ex_3 => ?_)
        obtain rfl : x_3 = (nI (cbk (rvP rv) j + blk np9)) := by rw [ex_3]; exact nI_add _ _
        clear ex_3
        refine lv_istore_n (lv' := [(1, .int (nI (cbk (rvP rv) j + blk np9))), (2, .int (nI j)), (0, .ref hdo)]) hx hb d_D_countBlocks_36 rfl hl (by decide) rfl (fun ls hl => ?_)
        refine lv_iinc (v := nI (j + 1)) (lv' := [(2, .int (nI (j + 1))), (1, .int (nI (cbk (rvP rv) j + blk np9))), (0, .ref hdo)]) hx hb d_D_countBlocks_37 hl (k := 1) rfl (nI_1 j) (by decide) rfl (fun ls hl => ?_)
        refine lv_goto (tgt := 4) hx hb d_D_countBlocks_40 (by decide) ?_
        exact ih (j + 1) hlt (by omega) ls (by rw [cbk_s (rvP_s hq9), show List.length (Rc.S (a9, pa9, np9, fp9, S9, au9, sm9)) = np9 from ho9.1.1]; exact (lv_sub hl [0, 1, 2] rfl))
set_option maxHeartbeats 4000000 in
set_option maxRecDepth 100000 in
theorem g_countBlocks (l : Launch) (dC : Nat → ClassId) (dI : Nat → Nat → Nat) (hdo : Nat) (hra : Nat) (cR : ClassId) (df : Nat) (dn : Nat) (cB : ClassId) (rv : Nat → Option Rc) (pl : va_W) (hdn : dn ≤ 64) (hpl : plR cB rv pl) (hok : rvOk rv) : Met l y_D_countBlocks k_D_countBlocks ({ frames := 1, cells := 0, slots := 0, locals := 20 } : Room) (va_Pc [.ref hdo] (pc_R (dC, dI) (([(hdo, .inr (5, [.ref hra, .int (nI df), .int (nI dn)])), (hra, .inl (cR, 64, .inr (.inr (.inr (.inr ((rvA rv)))))))] : va_W) ++ pl) [(cR, .object R_V), (cB, .byte)])) (vp_Si (fun r => r = nI (cbk (rvP rv) dn))) 0 0 (fun _ => False) := by
  refine Met.ofW (cc := prog_2_method_8_code) (maxL := 3) (ret := (some .int)) (by decide) rfl ?_
  intro p e s m args below meth c s₁ B hml hv
  obtain ⟨rfl, hP, hK, hN⟩ := hv
  have hx := B.exec
  have hb := B.bytes
  have hr := B.returns
  have hts := atoms_spec (ws := k_D_countBlocks) B.pre
  have hw0 : ∀ w ∈ w0, w.before _ s = true := fun w h => hts w (List.mem_cons_of_mem _ h)
  have hown : s.vm.findClass R_D = some m.cls := findClass_of_methodNamed B.named
  have hlocks := B.notSynchronized
  have hP : va_P (dC, dI) vwCl (([(hdo, .inr (5, [.ref hra, .int (nI df), .int (nI dn)])), (hra, .inl (cR, 64, .inr (.inr (.inr (.inr ((rvA rv)))))))] : va_W) ++ pl) s.heap := hP
  have hl := lv_entry ([.ref hdo]) (n := 3) (Nat.le_of_ble_eq_true rfl)
  rw [lg_entry_eq]
  generalize (lg_sl ([.ref hdo]) ++ List.replicate (3 - (lg_sl ([.ref hdo])).length) Slot.unset).toArray = ls at hl ⊢
  have hl : lv_has ls 3 [(0, .ref hdo)] := hl
  refine lv_iconst (v := 0) hx hb d_D_countBlocks_0 (by decide) ?_
  refine lv_istore_n (lv' := [(1, .int 0), (0, .ref hdo)]) hx hb d_D_countBlocks_1 rfl hl (by decide) rfl (fun ls hl => ?_)
  refine lv_iconst (v := 0) hx hb d_D_countBlocks_2 (by decide) ?_
  refine lv_istore_n (lv' := [(2, .int 0), (1, .int 0), (0, .ref hdo)]) hx hb d_D_countBlocks_3 rfl hl (by decide) rfl (fun ls hl => ?_)
  refine lq_cbk hdo hra cR df dn cB rv pl hdn hpl hok hx hb hml hown hw0 hN hK hP (fun ls hl => ?_) (dn + 1) 0 (by omega) (by omega) ls (lv_sub hl [0, 1, 2] rfl)
  refine lv_iload_n hx hb d_D_countBlocks_43 rfl (lv_at hl 1 rfl) ?_
  exact W.iret (v := (nI (cbk (rvP rv) dn))) hx hb hr (fun t ht hW => ⟨(nI (cbk (rvP rv) dn)), rfl, rfl, ht⟩) (fun q h => by cases h) d_D_countBlocks_44
end
section
set_option maxHeartbeats 4000000 in
set_option maxRecDepth 100000 in
theorem g_makeNext_N (l : Launch) (dC : Nat → ClassId) (dI : Nat → Nat → Nat) (h0 : Nat) (v1 : Value) (v2 : Value) (vp : Value) (a0 : Int32) (hdo : Nat) (hra : Nat) (cR : ClassId) (df : Nat) (dn : Nat) (fr : Nat → Option Nat) (a1 : Int32) (hdn : dn ≤ 64) (hkN : atN dn fr a1 = none) : Met l y_M_makeNext k_M_makeNext ({ frames := 1, cells := 0, slots := 0, locals := 21 } : Room) (va_Pc [.ref h0, .ref hdo, .int a1] (pc_R (dC, dI) [(h0, .inr (2, [v1, v2, vp, .int a0])), (hdo, .inr (5, [.ref hra, .int (nI df), .int (nI dn)])), (hra, .inl (cR, 64, .inr (.inr (.inr (.inr (fr))))))] [(cR, .object R_V)])) (vp_Si (fun r => r = 0)) 0 0 (fun _ => False) := by
  refine Met.ofW (cc := prog_3_method_4_code) (maxL := 7) (ret := (some .boolean)) (by decide) rfl ?_
  intro p e s m args below meth c s₁ B hml hv
  obtain ⟨rfl, hP, hK, hN⟩ := hv
  have hx := B.exec
  have hb := B.bytes
  have hr := B.returns
  have hts := atoms_spec (ws := k_M_makeNext) B.pre
  have hw0 : ∀ w ∈ w0, w.before _ s = true := fun w h => hts w (List.mem_cons_of_mem _ h)
  have hown : s.vm.findClass R_M = some m.cls := findClass_of_methodNamed B.named
  have hlocks := B.notSynchronized
  have hP : va_P (dC, dI) vwCl [(h0, .inr (2, [v1, v2, vp, .int a0])), (hdo, .inr (5, [.ref hra, .int (nI df), .int (nI dn)])), (hra, .inl (cR, 64, .inr (.inr (.inr (.inr (fr))))))] s.heap := hP
  have hl := lv_entry ([.ref h0, .ref hdo, .int a1]) (n := 7) (Nat.le_of_ble_eq_true rfl)
  rw [lg_entry_eq]
  generalize (lg_sl ([.ref h0, .ref hdo, .int a1]) ++ List.replicate (7 - (lg_sl ([.ref h0, .ref hdo, .int a1])).length) Slot.unset).toArray = ls at hl ⊢
  have hl : lv_has ls 7 [(0, .ref h0), (1, .ref hdo), (2, .int a1)] := hl
  refine lv_aload_n hx hb d_M_makeNext_0 rfl (lv_at hl 1 rfl) ?_
  refine lv_iload_n hx hb d_M_makeNext_1 rfl (lv_at hl 2 rfl) ?_
  have hPc := hP.sub (ws' := [(hdo, .inr (5, [.ref hra, .int (nI df), .int (nI dn)])), (hra, .inl (cR, 64, .inr (.inr (.inr (.inr ((fr)))))))]) [1, 2] rfl
  have hKc := hK.sub (tys' := [(cR, .object R_V)]) [0] rfl
  refine ps_q (va_runV (As := [.int a1]) (rest := []) ⟨hx, hb, hml, hown, hw0⟩ (g_keptAt_N l dC dI hdo hra cR df dn (fr) a1 (by first | assumption | decide | omega) (by first | assumption | decide | omega)) (cwV 1 hw0 (gd_Vm wm_312 wm_313 wm_314 wm_315 wm_316) rfl rfl rfl (by decide +kernel) ⟨by decide +kernel, by decide +kernel⟩) (prV_R hPc hKc hN (va_recv hKc hPc (ci := 5) (q0 := 0) rfl rfl)) rfl rfl hl.1 rfl (lv_room (Nat.le_of_ble_eq_true rfl)) d_M_makeNext_2 ⟨by decide +kernel, by decide +kernel⟩) (fun r_1 hr_1 => ?_)
  obtain rfl : r_1 = none := hr_1
  refine W.eq (g2 := F0 m 5 ls [.null]) rfl ?_
  refine lv_astore_nN (lv' := [(3, .null), (0, .ref h0), (1, .ref hdo), (2, .int a1)]) hx hb d_M_makeNext_5 rfl hl (by decide) rfl (fun ls hl => ?_)
  refine lv_aload_nN hx hb d_M_makeNext_6 rfl (lv_at hl 0 rfl) ?_
  refine lv_ifnonnullN hx hb d_M_makeNext_7 ?_
  refine lv_iconst (v := 0) hx hb d_M_makeNext_10 (by decide) ?_
  exact W.zret (v := 0) (ty := .boolean) hx hb hr rfl (fun t ht hW => ⟨0, rfl, rfl, ht⟩) (fun q h => by cases h) d_M_makeNext_11
set_option maxHeartbeats 4000000 in
set_option maxRecDepth 100000 in
theorem g_makeNext_S (l : Launch) (dC : Nat → ClassId) (dI : Nat → Nat → Nat) (sz : Nat) (h0 : Nat) (hta : Nat) (hty : Nat) (hba : Nat) (hby : Nat) (cB : ClassId) (k : Nat) (f : Nat → Int32) (kb : Nat) (fb : Nat → Int32) (vp : Value) (a0 : Int32) (T : List Int32) (Bs : List Int32) (hdo : Nat) (hra : Nat) (cR : ClassId) (df : Nat) (dn : Nat) (fr : Nat → Option Nat) (hv : Nat) (hpi : Nat) (np : Nat) (fp : Nat → Int32) (au : Int32) (sm : Int32) (S : List Int32) (a1 : Int32) (htt : tx T k f) (hk : k ≤ 256) (htb : tx Bs kb fb) (hkb : kb ≤ 256) (hdn : dn ≤ 64) (hkS : atN dn fr a1 = some hv) (hs9 : tx S np fp) (hnp : np ≤ 1024) : Met l y_M_makeNext k_M_makeNext ({ frames := 3, cells := 0, slots := 0, locals := 68 } : Room) (va_Pc [.ref h0, .ref hdo, .int a1] (pc_E (dC, dI) [(h0, .inr (2, [.ref hba, .ref hta, vp, .int a0])), (hta, .inr (1, [.ref hty, .int (nI k)])), (hty, .inl (cB, 256, .inl (f))), (hba, .inr (1, [.ref hby, .int (nI kb)])), (hby, .inl (cB, 256, .inl (fb))), (hdo, .inr (5, [.ref hra, .int (nI df), .int (nI dn)])), (hra, .inl (cR, 64, .inr (.inr (.inr (.inr (fr)))))), (hv, .inr (6, [.ref hpi, .int au, .int sm])), (hpi, .inl (cB, np, .inl (fp)))] [(cB, .byte), (cR, .object R_V)] sz)) (va_Qi (fun (r : Int32) (_ : Unit) => r = bI (mak S T).isSome) (fun (_ : Unit) t => ∃ (k2 : Nat) (f2 : Nat → Int32) (T2 : List Int32) (a2 : Nat), ((tx T2 k2 f2 ∧ k2 ≤ 256) ∧ ∀ Y, mak S T = some Y → T2 = Y) ∧ at_E (dC, dI) (va_A [(h0, .inr (2, [.ref hba, .ref hta, vp, .int a0])), (hta, .inr (1, [.ref hty, .int (nI k)])), (hty, .inl (cB, 256, .inl (f))), (hba, .inr (1, [.ref hby, .int (nI kb)])), (hby, .inl (cB, 256, .inl (fb))), (hdo, .inr (5, [.ref hra, .int (nI df), .int (nI dn)])), (hra, .inl (cR, 64, .inr (.inr (.inr (.inr (fr)))))), (hv, .inr (6, [.ref hpi, .int au, .int sm])), (hpi, .inl (cB, np, .inl (fp)))] sz) [(h0, .inr (2, [.ref hta, .ref hba, .ref hpi, .int (nI a2)])), (hba, .inr (1, [.ref hby, .int (nI k2)])), (hby, .inl (cB, 256, .inl (f2))), (hta, .inr (1, [.ref hty, .int (nI k)])), (hty, .inl (cB, 256, .inl (f))), (hdo, .inr (5, [.ref hra, .int (nI df), .int (nI dn)])), (hra, .inl (cR, 64, .inr (.inr (.inr (.inr (fr)))))), (hv, .inr (6, [.ref hpi, .int au, .int sm])), (hpi, .inl (cB, np, .inl (fp)))] [(cB, .byte), (cR, .object R_V)] t) (va_A [(h0, .inr (2, [.ref hba, .ref hta, vp, .int a0])), (hta, .inr (1, [.ref hty, .int (nI k)])), (hty, .inl (cB, 256, .inl (f))), (hba, .inr (1, [.ref hby, .int (nI kb)])), (hby, .inl (cB, 256, .inl (fb))), (hdo, .inr (5, [.ref hra, .int (nI df), .int (nI dn)])), (hra, .inl (cR, 64, .inr (.inr (.inr (.inr (fr)))))), (hv, .inr (6, [.ref hpi, .int au, .int sm])), (hpi, .inl (cB, np, .inl (fp)))] sz)) 0 0 (va_A [(h0, .inr (2, [.ref hba, .ref hta, vp, .int a0])), (hta, .inr (1, [.ref hty, .int (nI k)])), (hty, .inl (cB, 256, .inl (f))), (hba, .inr (1, [.ref hby, .int (nI kb)])), (hby, .inl (cB, 256, .inl (fb))), (hdo, .inr (5, [.ref hra, .int (nI df), .int (nI dn)])), (hra, .inl (cR, 64, .inr (.inr (.inr (.inr (fr)))))), (hv, .inr (6, [.ref hpi, .int au, .int sm])), (hpi, .inl (cB, np, .inl (fp)))] sz) := by
  refine Met.ofW (cc := prog_3_method_4_code) (maxL := 7) (ret := (some .boolean)) (by decide) rfl ?_
  intro p e s m args below meth c s₁ B hml hv
  obtain ⟨rfl, hsz, hP, hK, hD0, hN⟩ := hv
  have hx := B.exec
  have hb := B.bytes
  have hr := B.returns
  have hts := atoms_spec (ws := k_M_makeNext) B.pre
  have hw0 : ∀ w ∈ w0, w.before _ s = true := fun w h => hts w (List.mem_cons_of_mem _ h)
  have hown : s.vm.findClass R_M = some m.cls := findClass_of_methodNamed B.named
  have hlocks := B.notSynchronized
  subst hsz
  have hD := hD0.self (sz := s.heap.size)
  generalize hAe : va_A [(h0, .inr (2, [.ref hba, .ref hta, vp, .int a0])), (hta, .inr (1, [.ref hty, .int (nI k)])), (hty, .inl (cB, 256, .inl (f))), (hba, .inr (1, [.ref hby, .int (nI kb)])), (hby, .inl (cB, 256, .inl (fb))), (hdo, .inr (5, [.ref hra, .int (nI df), .int (nI dn)])), (hra, .inl (cR, 64, .inr (.inr (.inr (.inr (fr)))))), (hv, .inr (6, [.ref hpi, .int au, .int sm])), (hpi, .inl (cB, np, .inl (fp)))] s.heap.size = A at hD ⊢
  have hA : ∀ q : Nat, s.heap.size ≤ q → A q := fun q h => by rw [← hAe]; exact Or.inr h
  have hS : va_S A s.heap s.heap [] := va_S.rf
  have hP : va_P (dC, dI) vwCl [(h0, .inr (2, [.ref hba, .ref hta, vp, .int a0])), (hta, .inr (1, [.ref hty, .int (nI k)])), (hty, .inl (cB, 256, .inl (f))), (hba, .inr (1, [.ref hby, .int (nI kb)])), (hby, .inl (cB, 256, .inl (fb))), (hdo, .inr (5, [.ref hra, .int (nI df), .int (nI dn)])), (hra, .inl (cR, 64, .inr (.inr (.inr (.inr (fr)))))), (hv, .inr (6, [.ref hpi, .int au, .int sm])), (hpi, .inl (cB, np, .inl (fp)))] s.heap := hP
  have hl := lv_entry ([.ref h0, .ref hdo, .int a1]) (n := 7) (Nat.le_of_ble_eq_true rfl)
  rw [lg_entry_eq]
  generalize (lg_sl ([.ref h0, .ref hdo, .int a1]) ++ List.replicate (7 - (lg_sl ([.ref h0, .ref hdo, .int a1])).length) Slot.unset).toArray = ls at hl ⊢
  have hl : lv_has ls 7 [(0, .ref h0), (1, .ref hdo), (2, .int a1)] := hl
  refine lv_aload_n hx hb d_M_makeNext_0 rfl (lv_at hl 1 rfl) ?_
  refine lv_iload_n hx hb d_M_makeNext_1 rfl (lv_at hl 2 rfl) ?_
  have hPc := hP.sub (ws' := [(hdo, .inr (5, [.ref hra, .int (nI df), .int (nI dn)])), (hra, .inl (cR, 64, .inr (.inr (.inr (.inr ((fr)))))))]) [5, 6] rfl
  have hKc := hK.sub (tys' := [(cR, .object R_V)]) [1] rfl
  refine ps_q (va_runV (As := [.int a1]) (rest := []) ⟨hx, hb, hml, hown, hw0⟩ (g_keptAt_S l dC dI hdo hra cR df dn (fr) a1 hv (by first | assumption | decide | omega) (by first | assumption | decide | omega)) (cwV 1 hw0 (gd_Vm wm_312 wm_313 wm_314 wm_315 wm_316) rfl rfl rfl (by decide +kernel) ⟨by decide +kernel, by decide +kernel⟩) (prV_R hPc hKc hN (va_recv hKc hPc (ci := 5) (q0 := 0) rfl rfl)) rfl rfl hl.1 rfl (lv_room (Nat.le_of_ble_eq_true rfl)) d_M_makeNext_2 ⟨by decide +kernel, by decide +kernel⟩) (fun r_1 hr_1 => ?_)
  obtain rfl : r_1 = some hv := hr_1
  refine W.eq (g2 := F0 m 5 ls [.ref hv]) rfl ?_
  refine lv_astore_n (lv' := [(3, .ref hv), (0, .ref h0), (1, .ref hdo), (2, .int a1)]) hx hb d_M_makeNext_5 rfl hl (by decide) rfl (fun ls hl => ?_)
  refine lv_aload_n hx hb d_M_makeNext_6 rfl (lv_at hl 0 rfl) ?_
  refine lv_ifnonnull (tgt := 12) hx hb d_M_makeNext_7 (by decide) ?_
  refine lv_aload_n hx hb d_M_makeNext_12 rfl (lv_at hl 1 rfl) ?_
  refine va_get (D := (dC, dI)) (ci := 2) (v := .ref hba) (C := R_M) (T := F_M) (N := 4) hx hb hw0 in_M hown hK hP 0 rfl rfl 0 (by decide) (hw0 (.fieldLink R_M 12 "TextKeeper$Maker" "base" "LTextKeeper$Text;") wm_155) (fun _ h9 => h9) rfl d_M_makeNext_13 ?_
  refine lv_astore (lv' := [(4, .ref hba), (3, .ref hv), (0, .ref h0), (1, .ref hdo), (2, .int a1)]) hx hb d_M_makeNext_16 hl (by decide) rfl (fun ls hl => ?_)
  refine lv_aload_n hx hb d_M_makeNext_18 rfl (lv_at hl 2 rfl) ?_
  refine lv_aload_n hx hb d_M_makeNext_19 rfl (lv_at hl 2 rfl) ?_
  refine va_get (D := (dC, dI)) (ci := 2) (v := .ref hta) (C := R_M) (T := F_M) (N := 4) hx hb hw0 in_M hown hK hP 0 rfl rfl 1 (by decide) (hw0 (.fieldLink R_M 18 "TextKeeper$Maker" "text" "LTextKeeper$Text;") wm_156) (fun _ h9 => h9) rfl d_M_makeNext_20 ?_
  refine va_put (D := (dC, dI)) (ci := 2) (v := .ref hta) (ty := (.object "TextKeeper$Text")) (C := R_M) (T := F_M) (N := 4) hx hb hw0 in_M ft_M tk_M nk_M hown hK hP hD hS 0 rfl rfl 0 (by decide) (hw0 (.fieldLink R_M 12 "TextKeeper$Maker" "base" "LTextKeeper$Text;") wm_155) (fun _ h9 => h9) rfl (by decide +kernel) rfl rfl (Nat.le_of_ble_eq_true rfl) d_M_makeNext_23 (fun H locs hP hD hS => ?_)
  replace hP : va_P (dC, dI) vwCl [(h0, .inr (2, [.ref hta, .ref hta, vp, .int a0])), (hta, .inr (1, [.ref hty, .int (nI k)])), (hty, .inl (cB, 256, .inl (f))), (hba, .inr (1, [.ref hby, .int (nI kb)])), (hby, .inl (cB, 256, .inl (fb))), (hdo, .inr (5, [.ref hra, .int (nI df), .int (nI dn)])), (hra, .inl (cR, 64, .inr (.inr (.inr (.inr (fr)))))), (hv, .inr (6, [.ref hpi, .int au, .int sm])), (hpi, .inl (cB, np, .inl (fp)))] H := hP
  replace hD : va_D A [(h0, .inr (2, [.ref hta, .ref hta, vp, .int a0])), (hta, .inr (1, [.ref hty, .int (nI k)])), (hty, .inl (cB, 256, .inl (f))), (hba, .inr (1, [.ref hby, .int (nI kb)])), (hby, .inl (cB, 256, .inl (fb))), (hdo, .inr (5, [.ref hra, .int (nI df), .int (nI dn)])), (hra, .inl (cR, 64, .inr (.inr (.inr (.inr (fr)))))), (hv, .inr (6, [.ref hpi, .int au, .int sm])), (hpi, .inl (cB, np, .inl (fp)))] := hD
  refine lv_aload_n hx hb d_M_makeNext_26 rfl (lv_at hl 2 rfl) ?_
  refine lv_aload hx hb d_M_makeNext_27 (lv_at hl 0 rfl) ?_
  refine va_put (D := (dC, dI)) (ci := 2) (v := .ref hba) (ty := (.object "TextKeeper$Text")) (C := R_M) (T := F_M) (N := 4) hx hb hw0 in_M ft_M tk_M nk_M hown hK hP hD hS 0 rfl rfl 1 (by decide) (hw0 (.fieldLink R_M 18 "TextKeeper$Maker" "text" "LTextKeeper$Text;") wm_156) (fun _ h9 => h9) rfl (by decide +kernel) rfl rfl (Nat.le_of_ble_eq_true rfl) d_M_makeNext_29 (fun H locs hP hD hS => ?_)
  replace hP : va_P (dC, dI) vwCl [(h0, .inr (2, [.ref hta, .ref hba, vp, .int a0])), (hta, .inr (1, [.ref hty, .int (nI k)])), (hty, .inl (cB, 256, .inl (f))), (hba, .inr (1, [.ref hby, .int (nI kb)])), (hby, .inl (cB, 256, .inl (fb))), (hdo, .inr (5, [.ref hra, .int (nI df), .int (nI dn)])), (hra, .inl (cR, 64, .inr (.inr (.inr (.inr (fr)))))), (hv, .inr (6, [.ref hpi, .int au, .int sm])), (hpi, .inl (cB, np, .inl (fp)))] H := hP
  replace hD : va_D A [(h0, .inr (2, [.ref hta, .ref hba, vp, .int a0])), (hta, .inr (1, [.ref hty, .int (nI k)])), (hty, .inl (cB, 256, .inl (f))), (hba, .inr (1, [.ref hby, .int (nI kb)])), (hby, .inl (cB, 256, .inl (fb))), (hdo, .inr (5, [.ref hra, .int (nI df), .int (nI dn)])), (hra, .inl (cR, 64, .inr (.inr (.inr (.inr (fr)))))), (hv, .inr (6, [.ref hpi, .int au, .int sm])), (hpi, .inl (cB, np, .inl (fp)))] := hD
  refine lv_aload_n hx hb d_M_makeNext_32 rfl (lv_at hl 2 rfl) ?_
  refine va_get (D := (dC, dI)) (ci := 2) (v := .ref hba) (C := R_M) (T := F_M) (N := 4) hx hb hw0 in_M hown hK hP 0 rfl rfl 1 (by decide) (hw0 (.fieldLink R_M 18 "TextKeeper$Maker" "text" "LTextKeeper$Text;") wm_156) (fun _ h9 => h9) rfl d_M_makeNext_33 ?_
  refine lv_iconst (v := 0) hx hb d_M_makeNext_36 (by decide) ?_
  have hPc := hP.sub (ws' := [(hba, .inr (1, [.ref hby, .int (nI kb)])), (hby, .inl (cB, 256, .inl ((fb))))]) [3, 4] rfl
  have hKc := hK.sub (tys' := [(cB, .byte)]) [0] rfl
  have hDc := hD.sub (ws' := [(hba, .inr (1, [.ref hby, .int (nI kb)])), (hby, .inl (cB, 256, .inl ((fb))))]) [3, 4] (by decide) rfl
  have hFc := va_free (wc := [(hba, .inr (1, [.ref hby, .int (nI kb)])), (hby, .inl (cB, 256, .inl ((fb))))]) hD hS hA [3, 4] rfl
  refine va_calli (va_runV (As := [.int 0]) (rest := []) ⟨hx, hb, hml, hown, hw0⟩ (g_shorten_T l dC dI H.size hba hby cB kb (fb) Bs 0 (by first | assumption | decide | omega) (by first | assumption | decide | omega) (by first | assumption | decide | omega)) (cwV 1 hw0 (gd_Vm wm_317 wm_318 wm_319 wm_151 wm_320) rfl rfl rfl (by decide +kernel) ⟨by decide +kernel, by decide +kernel⟩) (prV_E hPc hKc hDc hN (va_recv hKc hPc (ci := 1) (q0 := 0) rfl rfl)) rfl rfl hl.1 rfl (lv_room (Nat.le_of_ble_eq_true rfl)) d_M_makeNext_37 ⟨by decide +kernel, by decide +kernel⟩) hS (fun q _ h => hFc q h) hFc (fun r_2 u t H1 locs ht hvm hw hB hz1 hk1 hS => ?_)
  obtain ⟨hu_3, hP1, hK1, hD1⟩ := hB
  rw [ht] at hP1
  have hK1 := va_K.moved hvm.symm hK1
  try dsimp only at hw
  obtain ⟨hP, hD⟩ := va_join (wr := [(h0, .inr (2, [.ref hta, .ref hba, vp, .int a0])), (hta, .inr (1, [.ref hty, .int (nI k)])), (hty, .inl (cB, 256, .inl (f))), (hdo, .inr (5, [.ref hra, .int (nI df), .int (nI dn)])), (hra, .inl (cR, 64, .inr (.inr (.inr (.inr (fr)))))), (hv, .inr (6, [.ref hpi, .int au, .int sm])), (hpi, .inl (cB, np, .inl (fp)))]) (w1 := [(hba, .inr (1, [.ref hby, .int (nI 0)])), (hby, .inl (cB, 256, .inl ((fb))))]) hP hD [3, 4] [0, 1, 2, 5, 6, 7, 8] rfl rfl (by decide) (by decide) hk1 hFc hP1 hD1
  generalize H1 = H at hP hS ⊢
  replace hP : va_P (dC, dI) vwCl [(h0, .inr (2, [.ref hta, .ref hba, vp, .int a0])), (hta, .inr (1, [.ref hty, .int (nI k)])), (hty, .inl (cB, 256, .inl (f))), (hdo, .inr (5, [.ref hra, .int (nI df), .int (nI dn)])), (hra, .inl (cR, 64, .inr (.inr (.inr (.inr (fr)))))), (hv, .inr (6, [.ref hpi, .int au, .int sm])), (hpi, .inl (cB, np, .inl (fp))), (hba, .inr (1, [.ref hby, .int (nI 0)])), (hby, .inl (cB, 256, .inl ((fb))))] H := hP
  replace hD : va_D A [(h0, .inr (2, [.ref hta, .ref hba, vp, .int a0])), (hta, .inr (1, [.ref hty, .int (nI k)])), (hty, .inl (cB, 256, .inl (f))), (hdo, .inr (5, [.ref hra, .int (nI df), .int (nI dn)])), (hra, .inl (cR, 64, .inr (.inr (.inr (.inr (fr)))))), (hv, .inr (6, [.ref hpi, .int au, .int sm])), (hpi, .inl (cB, np, .inl (fp))), (hba, .inr (1, [.ref hby, .int (nI 0)])), (hby, .inl (cB, 256, .inl ((fb))))] := hD
  replace hK : va_K (dC, dI) vwCl [(cB, .byte), (cR, .object R_V)] s := hK
  obtain rfl : r_2 = 1 := hw
  refine lv_pop hx hb d_M_makeNext_40 rfl ?_
  refine lv_aload_n hx hb d_M_makeNext_41 rfl (lv_at hl 2 rfl) ?_
  refine lv_aload_n hx hb d_M_makeNext_42 rfl (lv_at hl 1 rfl) ?_
  refine va_getN (D := (dC, dI)) (ci := 6) (v := .ref hpi) (C := R_V) (T := F_V) (N := 3) hx hb hw0 in_V hown hK hP 5 rfl rfl 0 (by decide) (va_Nw.use rfl (hN.1 (.fieldLinkNest R_M 51 "TextKeeper$Revision" "piece" "[B" "TextKeeper") (List.mem_of_getElem? (i := 11) rfl))) (fun _ h9 => h9) rfl d_M_makeNext_43 ?_
  refine va_put (D := (dC, dI)) (ci := 2) (v := .ref hpi) (ty := (.array .byte)) (C := R_M) (T := F_M) (N := 4) hx hb hw0 in_M ft_M tk_M nk_M hown hK hP hD hS 0 rfl rfl 2 (by decide) (hw0 (.fieldLink R_M 21 "TextKeeper$Maker" "piece" "[B") wm_157) (fun _ h9 => h9) rfl (by decide +kernel) rfl rfl (Nat.le_of_ble_eq_true rfl) d_M_makeNext_46 (fun H locs hP hD hS => ?_)
  replace hP : va_P (dC, dI) vwCl [(h0, .inr (2, [.ref hta, .ref hba, .ref hpi, .int a0])), (hta, .inr (1, [.ref hty, .int (nI k)])), (hty, .inl (cB, 256, .inl (f))), (hdo, .inr (5, [.ref hra, .int (nI df), .int (nI dn)])), (hra, .inl (cR, 64, .inr (.inr (.inr (.inr (fr)))))), (hv, .inr (6, [.ref hpi, .int au, .int sm])), (hpi, .inl (cB, np, .inl (fp))), (hba, .inr (1, [.ref hby, .int (nI 0)])), (hby, .inl (cB, 256, .inl ((fb))))] H := hP
  replace hD : va_D A [(h0, .inr (2, [.ref hta, .ref hba, .ref hpi, .int a0])), (hta, .inr (1, [.ref hty, .int (nI k)])), (hty, .inl (cB, 256, .inl (f))), (hdo, .inr (5, [.ref hra, .int (nI df), .int (nI dn)])), (hra, .inl (cR, 64, .inr (.inr (.inr (.inr (fr)))))), (hv, .inr (6, [.ref hpi, .int au, .int sm])), (hpi, .inl (cB, np, .inl (fp))), (hba, .inr (1, [.ref hby, .int (nI 0)])), (hby, .inl (cB, 256, .inl ((fb))))] := hD
  refine lv_aload_n hx hb d_M_makeNext_49 rfl (lv_at hl 2 rfl) ?_
  refine lv_iconst (v := 0) hx hb d_M_makeNext_50 (by decide) ?_
  refine va_put (D := (dC, dI)) (ci := 2) (v := .int 0) (ty := .int) (C := R_M) (T := F_M) (N := 4) hx hb hw0 in_M ft_M tk_M nk_M hown hK hP hD hS 0 rfl rfl 3 (by decide) (hw0 (.fieldLink R_M 25 "TextKeeper$Maker" "at" "I") wm_158) (fun _ h9 => h9) rfl (by decide +kernel) rfl rfl (Nat.le_of_ble_eq_true rfl) d_M_makeNext_51 (fun H locs hP hD hS => ?_)
  replace hP : va_P (dC, dI) vwCl [(h0, .inr (2, [.ref hta, .ref hba, .ref hpi, .int 0])), (hta, .inr (1, [.ref hty, .int (nI k)])), (hty, .inl (cB, 256, .inl (f))), (hdo, .inr (5, [.ref hra, .int (nI df), .int (nI dn)])), (hra, .inl (cR, 64, .inr (.inr (.inr (.inr (fr)))))), (hv, .inr (6, [.ref hpi, .int au, .int sm])), (hpi, .inl (cB, np, .inl (fp))), (hba, .inr (1, [.ref hby, .int (nI 0)])), (hby, .inl (cB, 256, .inl ((fb))))] H := hP
  replace hD : va_D A [(h0, .inr (2, [.ref hta, .ref hba, .ref hpi, .int 0])), (hta, .inr (1, [.ref hty, .int (nI k)])), (hty, .inl (cB, 256, .inl (f))), (hdo, .inr (5, [.ref hra, .int (nI df), .int (nI dn)])), (hra, .inl (cR, 64, .inr (.inr (.inr (.inr (fr)))))), (hv, .inr (6, [.ref hpi, .int au, .int sm])), (hpi, .inl (cB, np, .inl (fp))), (hba, .inr (1, [.ref hby, .int (nI 0)])), (hby, .inl (cB, 256, .inl ((fb))))] := hD
  refine lv_iconst (v := 1) hx hb d_M_makeNext_54 (by decide) ?_
  refine lv_istore (lv' := [(5, .int 1), (4, .ref hba), (3, .ref hv), (0, .ref h0), (1, .ref hdo), (2, .int a1)]) hx hb d_M_makeNext_55 hl (by decide) rfl (fun ls hl => ?_)
  refine lv_iconst (v := 0) hx hb d_M_makeNext_57 (by decide) ?_
  refine lv_istore (lv' := [(6, .int 0), (5, .int 1), (4, .ref hba), (3, .ref hv), (0, .ref h0), (1, .ref hdo), (2, .int a1)]) hx hb d_M_makeNext_58 hl (by decide) rfl (fun ls hl => ?_)
  refine lq_mak h0 hta hba hpi hby cB hty cB k f T cB np fp S (mak S T) ([(hdo, .inr (5, [.ref hra, .int (nI df), .int (nI dn)])), (hra, .inl (cR, 64, .inr (.inr (.inr (.inr (fr)))))), (hv, .inr (6, [.ref hpi, .int au, .int sm]))]) htt hs9 hk (by omega) hx hb hml hown hw0 hN (hK.sub (tys' := [(cB, .byte), (cB, .byte), (cB, .byte)]) [0, 0, 0] rfl) hA (fun cnt k2 f2 T2 F2 g0 g1 g2 g3 g4 H locs hP hD hS ls hl => ?_) (fun a2 k2 f2 T2 g0 g1 g2 H locs hP hD hS ls hl => ?_) (np + 1) 0 (by omega) (by omega) 0 0 (fb) [] np (by omega) (by have h9 := hu_3; rw [List.take_zero] at h9; exact h9) (by omega) (by rw [mak, hs9.1]) (by omega) _ _ (hP.sub (ws' := [(h0, .inr (2, [.ref hta, .ref hba, .ref hpi, .int 0])), (hba, .inr (1, [.ref hby, .int (nI 0)])), (hby, .inl (cB, 256, .inl ((fb)))), (hta, .inr (1, [.ref hty, .int (nI k)])), (hty, .inl (cB, 256, .inl (f))), (hpi, .inl (cB, np, .inl (fp))), (hdo, .inr (5, [.ref hra, .int (nI df), .int (nI dn)])), (hra, .inl (cR, 64, .inr (.inr (.inr (.inr (fr)))))), (hv, .inr (6, [.ref hpi, .int au, .int sm]))]) [0, 7, 8, 1, 2, 6, 3, 4, 5] rfl) (hD.sub (ws' := [(h0, .inr (2, [.ref hta, .ref hba, .ref hpi, .int 0])), (hba, .inr (1, [.ref hby, .int (nI 0)])), (hby, .inl (cB, 256, .inl ((fb)))), (hta, .inr (1, [.ref hty, .int (nI k)])), (hty, .inl (cB, 256, .inl (f))), (hpi, .inl (cB, np, .inl (fp))), (hdo, .inr (5, [.ref hra, .int (nI df), .int (nI dn)])), (hra, .inl (cR, 64, .inr (.inr (.inr (.inr (fr)))))), (hv, .inr (6, [.ref hpi, .int au, .int sm]))]) [0, 7, 8, 1, 2, 6, 3, 4, 5] (by decide) rfl) hS ls (lv_sub hl [0, 1, 4] rfl)
  · replace hP : va_P (dC, dI) vwCl [(h0, .inr (2, [.ref hta, .ref hba, .ref hpi, .int (nI np)])), (hba, .inr (1, [.ref hby, .int (nI k2)])), (hby, .inl (cB, 256, .inl (f2))), (hta, .inr (1, [.ref hty, .int (nI k)])), (hty, .inl (cB, 256, .inl (f))), (hpi, .inl (cB, np, .inl (fp))), (hdo, .inr (5, [.ref hra, .int (nI df), .int (nI dn)])), (hra, .inl (cR, 64, .inr (.inr (.inr (.inr (fr)))))), (hv, .inr (6, [.ref hpi, .int au, .int sm]))] H := hP
    replace hD : va_D A [(h0, .inr (2, [.ref hta, .ref hba, .ref hpi, .int (nI np)])), (hba, .inr (1, [.ref hby, .int (nI k2)])), (hby, .inl (cB, 256, .inl (f2))), (hta, .inr (1, [.ref hty, .int (nI k)])), (hty, .inl (cB, 256, .inl (f))), (hpi, .inl (cB, np, .inl (fp))), (hdo, .inr (5, [.ref hra, .int (nI df), .int (nI dn)])), (hra, .inl (cR, 64, .inr (.inr (.inr (.inr (fr)))))), (hv, .inr (6, [.ref hpi, .int au, .int sm]))] := hD
    have hr9 : mak S T = some T2 := (by rw [← g3]; exact mkF_end (by rw [hs9.1]; omega))
    refine lv_iload hx hb d_M_makeNext_99 (lv_at hl 1 rfl) ?_
    have hP9 := hP.sub (ws' := [(h0, .inr (2, [.ref hta, .ref hba, .ref hpi, .int (nI np)])), (hba, .inr (1, [.ref hby, .int (nI k2)])), (hby, .inl (cB, 256, .inl (f2))), (hta, .inr (1, [.ref hty, .int (nI k)])), (hty, .inl (cB, 256, .inl (f))), (hdo, .inr (5, [.ref hra, .int (nI df), .int (nI dn)])), (hra, .inl (cR, 64, .inr (.inr (.inr (.inr (fr)))))), (hv, .inr (6, [.ref hpi, .int au, .int sm])), (hpi, .inl (cB, np, .inl (fp)))]) [0, 1, 2, 3, 4, 6, 7, 8, 5] rfl
    have hD9 := hD.sub (ws' := [(h0, .inr (2, [.ref hta, .ref hba, .ref hpi, .int (nI np)])), (hba, .inr (1, [.ref hby, .int (nI k2)])), (hby, .inl (cB, 256, .inl (f2))), (hta, .inr (1, [.ref hty, .int (nI k)])), (hty, .inl (cB, 256, .inl (f))), (hdo, .inr (5, [.ref hra, .int (nI df), .int (nI dn)])), (hra, .inl (cR, 64, .inr (.inr (.inr (.inr (fr)))))), (hv, .inr (6, [.ref hpi, .int au, .int sm])), (hpi, .inl (cB, np, .inl (fp)))]) [0, 1, 2, 3, 4, 6, 7, 8, 5] (by decide) rfl
    have hK9 := hK.sub (tys' := [(cB, .byte), (cR, .object R_V)]) [0, 1] rfl
    exact W.zret (v := 1) (ty := .boolean) hx hb hr rfl (fun t ht hW => ⟨⟨1, (), rfl, (by rw [hr9]; rfl), k2, f2, T2, np, ⟨⟨g1, g2⟩, (fun Y e9 => Option.some.inj (hr9.symm.trans e9))⟩, by rw [ht]; exact hP9, va_K.moved hW.alike hK9, hD9⟩, hS.F ht⟩) hS.2.2 d_M_makeNext_101
  · replace hP : va_P (dC, dI) vwCl [(h0, .inr (2, [.ref hta, .ref hba, .ref hpi, .int (nI a2)])), (hba, .inr (1, [.ref hby, .int (nI k2)])), (hby, .inl (cB, 256, .inl (f2))), (hta, .inr (1, [.ref hty, .int (nI k)])), (hty, .inl (cB, 256, .inl (f))), (hpi, .inl (cB, np, .inl (fp))), (hdo, .inr (5, [.ref hra, .int (nI df), .int (nI dn)])), (hra, .inl (cR, 64, .inr (.inr (.inr (.inr (fr)))))), (hv, .inr (6, [.ref hpi, .int au, .int sm]))] H := hP
    replace hD : va_D A [(h0, .inr (2, [.ref hta, .ref hba, .ref hpi, .int (nI a2)])), (hba, .inr (1, [.ref hby, .int (nI k2)])), (hby, .inl (cB, 256, .inl (f2))), (hta, .inr (1, [.ref hty, .int (nI k)])), (hty, .inl (cB, 256, .inl (f))), (hpi, .inl (cB, np, .inl (fp))), (hdo, .inr (5, [.ref hra, .int (nI df), .int (nI dn)])), (hra, .inl (cR, 64, .inr (.inr (.inr (.inr (fr)))))), (hv, .inr (6, [.ref hpi, .int au, .int sm]))] := hD
    have hr9 : mak S T = none := g2
    refine lv_iload hx hb d_M_makeNext_99 (lv_at hl 0 rfl) ?_
    have hP9 := hP.sub (ws' := [(h0, .inr (2, [.ref hta, .ref hba, .ref hpi, .int (nI a2)])), (hba, .inr (1, [.ref hby, .int (nI k2)])), (hby, .inl (cB, 256, .inl (f2))), (hta, .inr (1, [.ref hty, .int (nI k)])), (hty, .inl (cB, 256, .inl (f))), (hdo, .inr (5, [.ref hra, .int (nI df), .int (nI dn)])), (hra, .inl (cR, 64, .inr (.inr (.inr (.inr (fr)))))), (hv, .inr (6, [.ref hpi, .int au, .int sm])), (hpi, .inl (cB, np, .inl (fp)))]) [0, 1, 2, 3, 4, 6, 7, 8, 5] rfl
    have hD9 := hD.sub (ws' := [(h0, .inr (2, [.ref hta, .ref hba, .ref hpi, .int (nI a2)])), (hba, .inr (1, [.ref hby, .int (nI k2)])), (hby, .inl (cB, 256, .inl (f2))), (hta, .inr (1, [.ref hty, .int (nI k)])), (hty, .inl (cB, 256, .inl (f))), (hdo, .inr (5, [.ref hra, .int (nI df), .int (nI dn)])), (hra, .inl (cR, 64, .inr (.inr (.inr (.inr (fr)))))), (hv, .inr (6, [.ref hpi, .int au, .int sm])), (hpi, .inl (cB, np, .inl (fp)))]) [0, 1, 2, 3, 4, 6, 7, 8, 5] (by decide) rfl
    have hK9 := hK.sub (tys' := [(cB, .byte), (cR, .object R_V)]) [0, 1] rfl
    exact W.zret (v := 0) (ty := .boolean) hx hb hr rfl (fun t ht hW => ⟨⟨0, (), rfl, (by rw [hr9]; rfl), k2, f2, T2, a2, ⟨⟨g0, g1⟩, (fun Y e9 => by rw [hr9] at e9; cases e9)⟩, by rw [ht]; exact hP9, va_K.moved hW.alike hK9, hD9⟩, hS.F ht⟩) hS.2.2 d_M_makeNext_101
end
section
set_option maxHeartbeats 4000000 in
set_option maxRecDepth 100000 in
theorem lq_aga {p : Program} {l : Launch} {e : Env} {s : State} {m : MethodId} {args : Array Value} {below : List Frame} {meth : Method} {c : Code} {dC : Nat → ClassId} {dI : Nat → Nat → Nat} {A : Nat → Prop} {Q : State → Prop} (h0 : Nat) (hdo : Nat) (hra : Nat) (cR : ClassId) (df : Nat) (dn : Nat) (cB : ClassId) (rv : Nat → Option Rc) (pl : va_W) (r9 : Nat) (hdn : dn ≤ 64) (hr9 : r9 < dn) (hpl : plR cB rv pl) (hok : rvOk rv)
    (hx : p.tables.exec = Jvm.exec) (hb : c.code = prog_3_method_3_code) (hml : c.maxLocals = 6) (hown : s.vm.findClass R_M = some m.cls) (hw0 : ∀ w ∈ w0, w.before args s = true) (hN : nw_ok s) (hK : va_K (dC, dI) vwCl [(cB, .byte), (cR, .object R_V)] s) (hA : ∀ q : Nat, s.heap.size ≤ q → A q)
    (kk : ∀ (hta : Nat) (hty : Nat) (hba : Nat) (hby : Nat) (k : Nat) (f : Nat → Int32) (kb : Nat) (fb : Nat → Int32) (vp : Value) (a0 : Int32) (T : List Int32) (Bs : List Int32), (tx T k f) → (k ≤ 256) → (tx Bs kb fb) → (kb ≤ 256) → (agJ (rvP rv) r9 6 = some T) → ∀ (H : Heap) (locs : List Loc), va_P (dC, dI) vwCl (([(h0, .inr (2, [.ref hba, .ref hta, vp, .int a0])), (hta, .inr (1, [.ref hty, .int (nI k)])), (hty, .inl (cB, 256, .inl (f))), (hba, .inr (1, [.ref hby, .int (nI kb)])), (hby, .inl (cB, 256, .inl (fb))), (hdo, .inr (5, [.ref hra, .int (nI df), .int (nI dn)])), (hra, .inl (cR, 64, .inr (.inr (.inr (.inr ((rvA rv)))))))] : va_W) ++ pl) H → va_D A (([(h0, .inr (2, [.ref hba, .ref hta, vp, .int a0])), (hta, .inr (1, [.ref hty, .int (nI k)])), (hty, .inl (cB, 256, .inl (f))), (hba, .inr (1, [.ref hby, .int (nI kb)])), (hby, .inl (cB, 256, .inl (fb))), (hdo, .inr (5, [.ref hra, .int (nI df), .int (nI dn)])), (hra, .inl (cR, 64, .inr (.inr (.inr (.inr ((rvA rv)))))))] : va_W) ++ pl) → va_S A s.heap H locs → ∀ ls : Array Slot, lv_has ls 6 [(5, .int (nI (bt6 6))), (4, .int (nI (hi6 6 r9))), (3, .int 1), (0, .ref h0), (1, .ref hdo), (2, .int (nI r9))] → W p l e ({ frames := 4, cells := 0, slots := 0, locals := 94 } : Room) s m args below meth c H locs 0 0 Q (F0 m 63 ls []))
    (kk2 : ∀ (hta : Nat) (hty : Nat) (hba : Nat) (hby : Nat) (k : Nat) (f : Nat → Int32) (kb : Nat) (fb : Nat → Int32) (vp : Value) (a0 : Int32) (T : List Int32) (Bs : List Int32), (tx T k f) → (k ≤ 256) → (tx Bs kb fb) → (kb ≤ 256) → (agn (rvP rv) r9 = none) → ∀ (H : Heap) (locs : List Loc), va_P (dC, dI) vwCl (([(h0, .inr (2, [.ref hba, .ref hta, vp, .int a0])), (hta, .inr (1, [.ref hty, .int (nI k)])), (hty, .inl (cB, 256, .inl (f))), (hba, .inr (1, [.ref hby, .int (nI kb)])), (hby, .inl (cB, 256, .inl (fb))), (hdo, .inr (5, [.ref hra, .int (nI df), .int (nI dn)])), (hra, .inl (cR, 64, .inr (.inr (.inr (.inr ((rvA rv)))))))] : va_W) ++ pl) H → va_D A (([(h0, .inr (2, [.ref hba, .ref hta, vp, .int a0])), (hta, .inr (1, [.ref hty, .int (nI k)])), (hty, .inl (cB, 256, .inl (f))), (hba, .inr (1, [.ref hby, .int (nI kb)])), (hby, .inl (cB, 256, .inl (fb))), (hdo, .inr (5, [.ref hra, .int (nI df), .int (nI dn)])), (hra, .inl (cR, 64, .inr (.inr (.inr (.inr ((rvA rv)))))))] : va_W) ++ pl) → va_S A s.heap H locs → ∀ ls : Array Slot, lv_has ls 6 [(3, .int 0), (0, .ref h0)] → W p l e ({ frames := 4, cells := 0, slots := 0, locals := 94 } : Room) s m args below meth c H locs 0 0 Q (F0 m 63 ls [])) :
    ∀ (n j : Nat), j ≤ 6 → 6 < j + n → ∀ (hta : Nat) (hty : Nat) (hba : Nat) (hby : Nat) (k : Nat) (f : Nat → Int32) (kb : Nat) (fb : Nat → Int32) (vp : Value) (a0 : Int32) (T : List Int32) (Bs : List Int32), (tx T k f) → (k ≤ 256) → (tx Bs kb fb) → (kb ≤ 256) → (agJ (rvP rv) r9 j = some T) → ∀ (H : Heap) (locs : List Loc), va_P (dC, dI) vwCl (([(h0, .inr (2, [.ref hba, .ref hta, vp, .int a0])), (hta, .inr (1, [.ref hty, .int (nI k)])), (hty, .inl (cB, 256, .inl (f))), (hba, .inr (1, [.ref hby, .int (nI kb)])), (hby, .inl (cB, 256, .inl (fb))), (hdo, .inr (5, [.ref hra, .int (nI df), .int (nI dn)])), (hra, .inl (cR, 64, .inr (.inr (.inr (.inr ((rvA rv)))))))] : va_W) ++ pl) H → va_D A (([(h0, .inr (2, [.ref hba, .ref hta, vp, .int a0])), (hta, .inr (1, [.ref hty, .int (nI k)])), (hty, .inl (cB, 256, .inl (f))), (hba, .inr (1, [.ref hby, .int (nI kb)])), (hby, .inl (cB, 256, .inl (fb))), (hdo, .inr (5, [.ref hra, .int (nI df), .int (nI dn)])), (hra, .inl (cR, 64, .inr (.inr (.inr (.inr ((rvA rv)))))))] : va_W) ++ pl) → va_S A s.heap H locs → ∀ ls : Array Slot, lv_has ls 6 [(5, .int (nI (bt6 j))), (4, .int (nI (hi6 j r9))), (3, .int 1), (0, .ref h0), (1, .ref hdo), (2, .int (nI r9))] → W p l e ({ frames := 4, cells := 0, slots := 0, locals := 94 } : Room) s m args below meth c H locs 0 0 Q (F0 m 23 ls []) := by
  intro n
  induction n with
  | zero => intro j h1 h2; exact absurd h2 (by omega)
  | succ n ih =>
    intro j hj hn hta hty hba hby k f kb fb vp a0 T Bs hf0 hf1 hf2 hf3 hf4 H locs hP hD hS ls hl
    refine lv_iload hx hb d_M_makeAgain_23 (lv_at hl 0 rfl) ?_
    refine lv_if_le (tgt := 63) hx hb d_M_makeAgain_25 (by decide) (fun c_1 => ?_) (fun c_1 => ?_)
    · have hj6 : j = 6 := (by rcases Nat.lt_or_ge j 6 with z | z; exact absurd c_1 (nI_nle (bt6_iff r9 j (by omega) z).2.2.2.2.2.1 (by have := (bt6_iff r9 j (by omega) z).2.2.2.2.2.2; omega)); omega)
      obtain rfl : j = 6 := hj6
      exact kk hta hty hba hby k f kb fb vp a0 T Bs hf0 hf1 hf2 hf3 hf4 _ _ hP hD hS ls (lv_sub hl [0, 1, 2, 3, 4, 5] rfl)
    · have hlt : j < 6 := (by rcases Nat.lt_or_ge j 6 with z | z; exact z; obtain rfl : j = 6 := (by omega); exact absurd (by decide) c_1); have hb9 := bt6_iff r9 j (by omega) hlt
      refine lv_iload_n hx hb d_M_makeAgain_28 rfl (lv_at hl 2 rfl) ?_
      refine lv_if_eq (tgt := 63) hx hb d_M_makeAgain_29 (by decide) (fun h9 => absurd h9 (by decide +kernel)) (fun _ => ?_)
      refine lv_iload_n hx hb d_M_makeAgain_32 rfl (lv_at hl 5 rfl) ?_
      refine lv_iload hx hb d_M_makeAgain_33 (lv_at hl 0 rfl) ?_
      refine lv_iand hx hb d_M_makeAgain_35 ?_
      refine lv_topi (fun x_2 ex_2 => ?_)
      refine lv_if_eq (tgt := 54) hx hb d_M_makeAgain_36 (by decide) (fun c_3 => ?_) (fun c_3 => ?_)
      · have hd9 : hi6 (j + 1) r9 = hi6 j r9 := hb9.1.mp (by rw [← ex_2]; exact c_3)
        refine lv_iload hx hb d_M_makeAgain_54 (lv_at hl 0 rfl) ?_
        refine lv_iconst (v := 2) hx hb d_M_makeAgain_56 (by decide) ?_
        refine lv_idiv hx hb d_M_makeAgain_57 (by decide +kernel) ?_
        refine lv_topi (fun x_4 ex_4 => ?_)
        obtain rfl : x_4 = (nI (bt6 (j + 1))) := by rw [ex_4]; rw [← hb9.2.2.2.2.1]; exact (show nI (bt6 j) / nI 2 = nI (bt6 j / 2) from pk_div (by omega) (by decide) (by decide))
        clear ex_4
        refine lv_istore (lv' := [(5, .int (nI (bt6 (j + 1)))), (4, .int (nI (hi6 j r9))), (3, .int 1), (0, .ref h0), (1, .ref hdo), (2, .int (nI r9))]) hx hb d_M_makeAgain_58 hl (by decide) rfl (fun ls hl => ?_)
        refine lv_goto (tgt := 23) hx hb d_M_makeAgain_60 (by decide) ?_
        exact ih (j + 1) hlt (by omega) hta hty hba hby k f kb fb vp a0 T Bs hf0 hf1 hf2 hf3 (by rw [agJ_same hd9]; exact hf4) _ _ (hP.part (cx := [(h0, .inr (2, [.ref hba, .ref hta, vp, .int a0])), (hta, .inr (1, [.ref hty, .int (nI k)])), (hty, .inl (cB, 256, .inl (f))), (hba, .inr (1, [.ref hby, .int (nI kb)])), (hby, .inl (cB, 256, .inl (fb))), (hdo, .inr (5, [.ref hra, .int (nI df), .int (nI dn)])), (hra, .inl (cR, 64, .inr (.inr (.inr (.inr ((rvA rv)))))))]) [0, 1, 2, 3, 4, 5, 6] rfl) (hD.part (cx := [(h0, .inr (2, [.ref hba, .ref hta, vp, .int a0])), (hta, .inr (1, [.ref hty, .int (nI k)])), (hty, .inl (cB, 256, .inl (f))), (hba, .inr (1, [.ref hby, .int (nI kb)])), (hby, .inl (cB, 256, .inl (fb))), (hdo, .inr (5, [.ref hra, .int (nI df), .int (nI dn)])), (hra, .inl (cR, 64, .inr (.inr (.inr (.inr ((rvA rv)))))))]) [0, 1, 2, 3, 4, 5, 6] (by decide) rfl) hS ls (by rw [hd9]; exact (lv_sub hl [0, 1, 2, 3, 4, 5] rfl))
      · have hd9 : ¬ hi6 (j + 1) r9 = hi6 j r9 := (fun z => c_3 (by rw [ex_2]; exact hb9.1.mpr z))
        refine lv_iload hx hb d_M_makeAgain_39 (lv_at hl 1 rfl) ?_
        refine lv_iload hx hb d_M_makeAgain_41 (lv_at hl 0 rfl) ?_
        refine lv_iadd hx hb d_M_makeAgain_43 ?_
        refine lv_topi (fun x_5 ex_5 => ?_)
        obtain rfl : x_5 = (nI (hi6 (j + 1) r9)) := by rw [ex_5]; rw [hb9.2.1.resolve_left hd9]; exact nI_add _ _
        clear ex_5
        refine lv_istore (lv' := [(4, .int (nI (hi6 (j + 1) r9))), (5, .int (nI (bt6 j))), (3, .int 1), (0, .ref h0), (1, .ref hdo), (2, .int (nI r9))]) hx hb d_M_makeAgain_44 hl (by decide) rfl (fun ls hl => ?_)
        have hb6 := bt6_iff r9 j (by omega) hlt
        rcases hq9 : rv (hi6 (j + 1) r9) with _ | ⟨a9, pa9, np9, fp9, S9, au9, sm9⟩
        · have hkN : atN dn (rvA rv) (nI (hi6 (j + 1) r9)) = none := (show atN dn (rvA rv) (nI (hi6 (j + 1) r9)) = none from by rw [atN_nI (by omega) (by omega)]; exact rvA_n hq9)
          have hbad : agn (rvP rv) r9 = none := agJ_none (j := j + 1) (by rw [agJ_step hd9]; exact stp6_n (rvP_n hq9)) 6 (by omega)
          refine lv_aload_n hx hb d_M_makeAgain_46 rfl (lv_at hl 3 rfl) ?_
          refine lv_aload_n hx hb d_M_makeAgain_47 rfl (lv_at hl 4 rfl) ?_
          refine lv_iload hx hb d_M_makeAgain_48 (lv_at hl 0 rfl) ?_
          have hPc := hP.sub (ws' := [(h0, .inr (2, [.ref hba, .ref hta, vp, .int a0])), (hdo, .inr (5, [.ref hra, .int (nI df), .int (nI dn)])), (hra, .inl (cR, 64, .inr (.inr (.inr (.inr (((rvA rv))))))))]) [0, 5, 6] rfl
          have hKc := hK.sub (tys' := [(cR, .object R_V)]) [1] rfl
          refine ps_i (va_runV (As := [.ref hdo, .int (nI (hi6 (j + 1) r9))]) (rest := []) ⟨hx, hb, hml, hown, hw0⟩ (g_makeNext_N l dC dI h0 (.ref hba) (.ref hta) vp a0 hdo hra cR df dn ((rvA rv)) (nI (hi6 (j + 1) r9)) (by first | assumption | decide | omega) (by first | assumption | decide | omega)) (cwV 2 hw0 (gd_Vm wm_321 wm_322 wm_323 wm_169 wm_324) rfl rfl rfl (by decide +kernel) ⟨by decide +kernel, by decide +kernel⟩) (prV_R hPc hKc hN (va_recv hKc hPc (ci := 2) (q0 := 0) rfl rfl)) rfl rfl hl.1 rfl (lv_room (Nat.le_of_ble_eq_true rfl)) d_M_makeAgain_50 ⟨by decide +kernel, by decide +kernel⟩) (fun r_6 hr_6 => ?_)
          obtain rfl : r_6 = 0 := hr_6
          · have hz9 := hbad
            refine lv_istore_n (lv' := [(3, .int 0), (4, .int (nI (hi6 (j + 1) r9))), (5, .int (nI (bt6 j))), (0, .ref h0), (1, .ref hdo), (2, .int (nI r9))]) hx hb d_M_makeAgain_53 rfl hl (by decide) rfl (fun ls hl => ?_)
            refine lv_iload hx hb d_M_makeAgain_54 (lv_at hl 2 rfl) ?_
            refine lv_iconst (v := 2) hx hb d_M_makeAgain_56 (by decide) ?_
            refine lv_idiv hx hb d_M_makeAgain_57 (by decide +kernel) ?_
            refine lv_topi (fun x_7 ex_7 => ?_)
            obtain rfl : x_7 = (nI (bt6 (j + 1))) := by rw [ex_7]; rw [← hb9.2.2.2.2.1]; exact (show nI (bt6 j) / nI 2 = nI (bt6 j / 2) from pk_div (by omega) (by decide) (by decide))
            clear ex_7
            refine lv_istore (lv' := [(5, .int (nI (bt6 (j + 1)))), (3, .int 0), (4, .int (nI (hi6 (j + 1) r9))), (0, .ref h0), (1, .ref hdo), (2, .int (nI r9))]) hx hb d_M_makeAgain_58 hl (by decide) rfl (fun ls hl => ?_)
            refine lv_goto (tgt := 23) hx hb d_M_makeAgain_60 (by decide) ?_
            refine lv_iload hx hb d_M_makeAgain_23 (lv_at hl 0 rfl) ?_
            refine lv_if_le (tgt := 63) hx hb d_M_makeAgain_25 (by decide) (fun c_8 => ?_) (fun c_8 => ?_)
            · have hz8 := hj
              exact kk2 hta hty hba hby k f kb fb vp a0 T Bs hf0 hf1 hf2 hf3 hbad _ _ (hP.part (cx := [(h0, .inr (2, [.ref hba, .ref hta, vp, .int a0])), (hta, .inr (1, [.ref hty, .int (nI k)])), (hty, .inl (cB, 256, .inl (f))), (hba, .inr (1, [.ref hby, .int (nI kb)])), (hby, .inl (cB, 256, .inl (fb))), (hdo, .inr (5, [.ref hra, .int (nI df), .int (nI dn)])), (hra, .inl (cR, 64, .inr (.inr (.inr (.inr ((rvA rv)))))))]) [0, 1, 2, 3, 4, 5, 6] rfl) (hD.part (cx := [(h0, .inr (2, [.ref hba, .ref hta, vp, .int a0])), (hta, .inr (1, [.ref hty, .int (nI k)])), (hty, .inl (cB, 256, .inl (f))), (hba, .inr (1, [.ref hby, .int (nI kb)])), (hby, .inl (cB, 256, .inl (fb))), (hdo, .inr (5, [.ref hra, .int (nI df), .int (nI dn)])), (hra, .inl (cR, 64, .inr (.inr (.inr (.inr ((rvA rv)))))))]) [0, 1, 2, 3, 4, 5, 6] (by decide) rfl) hS ls (lv_sub hl [1, 3] rfl)
            · have hz8 := hj
              refine lv_iload_n hx hb d_M_makeAgain_28 rfl (lv_at hl 1 rfl) ?_
              refine lv_if_eq (tgt := 63) hx hb d_M_makeAgain_29 (by decide) (fun _ => ?_) (fun h9 => absurd h9 (by decide +kernel))
              exact kk2 hta hty hba hby k f kb fb vp a0 T Bs hf0 hf1 hf2 hf3 hbad _ _ (hP.part (cx := [(h0, .inr (2, [.ref hba, .ref hta, vp, .int a0])), (hta, .inr (1, [.ref hty, .int (nI k)])), (hty, .inl (cB, 256, .inl (f))), (hba, .inr (1, [.ref hby, .int (nI kb)])), (hby, .inl (cB, 256, .inl (fb))), (hdo, .inr (5, [.ref hra, .int (nI df), .int (nI dn)])), (hra, .inl (cR, 64, .inr (.inr (.inr (.inr ((rvA rv)))))))]) [0, 1, 2, 3, 4, 5, 6] rfl) (hD.part (cx := [(h0, .inr (2, [.ref hba, .ref hta, vp, .int a0])), (hta, .inr (1, [.ref hty, .int (nI k)])), (hty, .inl (cB, 256, .inl (f))), (hba, .inr (1, [.ref hby, .int (nI kb)])), (hby, .inl (cB, 256, .inl (fb))), (hdo, .inr (5, [.ref hra, .int (nI df), .int (nI dn)])), (hra, .inl (cR, 64, .inr (.inr (.inr (.inr ((rvA rv)))))))]) [0, 1, 2, 3, 4, 5, 6] (by decide) rfl) hS ls (lv_sub hl [1, 3] rfl)
        · obtain ⟨pl9, hp9⟩ := hpl _ _ (by omega) hq9
          have hP := hP.perm (pl_take hp9)
          have hD := hD.perm (pl_take hp9)
          replace hP : va_P (dC, dI) vwCl (([(h0, .inr (2, [.ref hba, .ref hta, vp, .int a0])), (hta, .inr (1, [.ref hty, .int (nI k)])), (hty, .inl (cB, 256, .inl (f))), (hba, .inr (1, [.ref hby, .int (nI kb)])), (hby, .inl (cB, 256, .inl (fb))), (hdo, .inr (5, [.ref hra, .int (nI df), .int (nI dn)])), (hra, .inl (cR, 64, .inr (.inr (.inr (.inr ((rvA rv))))))), (a9, .inr (6, [.ref pa9, .int au9, .int sm9])), (pa9, .inl (cB, np9, .inl (fp9)))] : va_W) ++ pl9) H := hP
          replace hD : va_D A (([(h0, .inr (2, [.ref hba, .ref hta, vp, .int a0])), (hta, .inr (1, [.ref hty, .int (nI k)])), (hty, .inl (cB, 256, .inl (f))), (hba, .inr (1, [.ref hby, .int (nI kb)])), (hby, .inl (cB, 256, .inl (fb))), (hdo, .inr (5, [.ref hra, .int (nI df), .int (nI dn)])), (hra, .inl (cR, 64, .inr (.inr (.inr (.inr ((rvA rv))))))), (a9, .inr (6, [.ref pa9, .int au9, .int sm9])), (pa9, .inl (cB, np9, .inl (fp9)))] : va_W) ++ pl9) := hD
          have ho9 := hok _ _ hq9
          have hs9 : tx S9 np9 fp9 := ho9.1
          have hnp : np9 ≤ 1024 := ho9.2
          have hkS : atN dn (rvA rv) (nI (hi6 (j + 1) r9)) = some a9 := (show atN dn (rvA rv) (nI (hi6 (j + 1) r9)) = some a9 from by rw [atN_nI (by omega) (by omega)]; exact rvA_s hq9)
          refine lv_aload_n hx hb d_M_makeAgain_46 rfl (lv_at hl 3 rfl) ?_
          refine lv_aload_n hx hb d_M_makeAgain_47 rfl (lv_at hl 4 rfl) ?_
          refine lv_iload hx hb d_M_makeAgain_48 (lv_at hl 0 rfl) ?_
          have hPc := hP.sub (ws' := [(h0, .inr (2, [.ref hba, .ref hta, vp, .int a0])), (hta, .inr (1, [.ref hty, .int (nI k)])), (hty, .inl (cB, 256, .inl ((f)))), (hba, .inr (1, [.ref hby, .int (nI kb)])), (hby, .inl (cB, 256, .inl ((fb)))), (hdo, .inr (5, [.ref hra, .int (nI df), .int (nI dn)])), (hra, .inl (cR, 64, .inr (.inr (.inr (.inr (((rvA rv)))))))), (a9, .inr (6, [.ref pa9, .int au9, .int sm9])), (pa9, .inl (cB, np9, .inl ((fp9))))]) [0, 1, 2, 3, 4, 5, 6, 7, 8] rfl
          have hKc := hK.sub (tys' := [(cB, .byte), (cR, .object R_V)]) [0, 1] rfl
          have hDc := hD.sub (ws' := [(h0, .inr (2, [.ref hba, .ref hta, vp, .int a0])), (hta, .inr (1, [.ref hty, .int (nI k)])), (hty, .inl (cB, 256, .inl ((f)))), (hba, .inr (1, [.ref hby, .int (nI kb)])), (hby, .inl (cB, 256, .inl ((fb)))), (hdo, .inr (5, [.ref hra, .int (nI df), .int (nI dn)])), (hra, .inl (cR, 64, .inr (.inr (.inr (.inr (((rvA rv)))))))), (a9, .inr (6, [.ref pa9, .int au9, .int sm9])), (pa9, .inl (cB, np9, .inl ((fp9))))]) [0, 1, 2, 3, 4, 5, 6, 7, 8] (by decide) rfl
          have hFc := va_free (wc := [(h0, .inr (2, [.ref hba, .ref hta, vp, .int a0])), (hta, .inr (1, [.ref hty, .int (nI k)])), (hty, .inl (cB, 256, .inl ((f)))), (hba, .inr (1, [.ref hby, .int (nI kb)])), (hby, .inl (cB, 256, .inl ((fb)))), (hdo, .inr (5, [.ref hra, .int (nI df), .int (nI dn)])), (hra, .inl (cR, 64, .inr (.inr (.inr (.inr (((rvA rv)))))))), (a9, .inr (6, [.ref pa9, .int au9, .int sm9])), (pa9, .inl (cB, np9, .inl ((fp9))))]) hD hS hA [0, 1, 2, 3, 4, 5, 6, 7, 8] rfl
          refine va_calli (va_runV (As := [.ref hdo, .int (nI (hi6 (j + 1) r9))]) (rest := []) ⟨hx, hb, hml, hown, hw0⟩ (g_makeNext_S l dC dI H.size h0 hta hty hba hby cB k (f) kb (fb) vp a0 T Bs hdo hra cR df dn ((rvA rv)) a9 pa9 np9 (fp9) au9 sm9 S9 (nI (hi6 (j + 1) r9)) (by first | assumption | decide | omega) (by first | assumption | decide | omega) (by first | assumption | decide | omega) (by first | assumption | decide | omega) (by first | assumption | decide | omega) (by first | assumption | decide | omega) (by first | assumption | decide | omega) (by first | assumption | decide | omega)) (cwV 2 hw0 (gd_Vm wm_321 wm_322 wm_323 wm_169 wm_324) rfl rfl rfl (by decide +kernel) ⟨by decide +kernel, by decide +kernel⟩) (prV_E hPc hKc hDc hN (va_recv hKc hPc (ci := 2) (q0 := 0) rfl rfl)) rfl rfl hl.1 rfl (lv_room (Nat.le_of_ble_eq_true rfl)) d_M_makeAgain_50 ⟨by decide +kernel, by decide +kernel⟩) hS (fun q _ h => hFc q h) hFc (fun r_9 u t H1 locs ht hvm hw hB hz1 hk1 hS => ?_)
          obtain ⟨k2_10, f2_11, T2_12, a2_13, ⟨hu_14_0, hu_14_1⟩, hP1, hK1, hD1⟩ := hB
          rw [ht] at hP1
          have hK1 := va_K.moved hvm.symm hK1
          try dsimp only at hw
          obtain ⟨hP, hD⟩ := va_joinQ (wr := []) (w1 := [(h0, .inr (2, [.ref hta, .ref hba, .ref pa9, .int (nI a2_13)])), (hba, .inr (1, [.ref hby, .int (nI k2_10)])), (hby, .inl (cB, 256, .inl (f2_11))), (hta, .inr (1, [.ref hty, .int (nI k)])), (hty, .inl (cB, 256, .inl ((f)))), (hdo, .inr (5, [.ref hra, .int (nI df), .int (nI dn)])), (hra, .inl (cR, 64, .inr (.inr (.inr (.inr (((rvA rv)))))))), (a9, .inr (6, [.ref pa9, .int au9, .int sm9])), (pa9, .inl (cB, np9, .inl ((fp9))))]) hP hD [0, 1, 2, 3, 4, 5, 6, 7, 8] [] rfl rfl (by decide) (by decide) hk1 hFc hP1 hD1
          generalize H1 = H at hP hS ⊢
          replace hP : va_P (dC, dI) vwCl (([(h0, .inr (2, [.ref hta, .ref hba, .ref pa9, .int (nI a2_13)])), (hba, .inr (1, [.ref hby, .int (nI k2_10)])), (hby, .inl (cB, 256, .inl (f2_11))), (hta, .inr (1, [.ref hty, .int (nI k)])), (hty, .inl (cB, 256, .inl ((f)))), (hdo, .inr (5, [.ref hra, .int (nI df), .int (nI dn)])), (hra, .inl (cR, 64, .inr (.inr (.inr (.inr (((rvA rv)))))))), (a9, .inr (6, [.ref pa9, .int au9, .int sm9])), (pa9, .inl (cB, np9, .inl ((fp9))))] : va_W) ++ pl9) H := hP
          replace hD : va_D A (([(h0, .inr (2, [.ref hta, .ref hba, .ref pa9, .int (nI a2_13)])), (hba, .inr (1, [.ref hby, .int (nI k2_10)])), (hby, .inl (cB, 256, .inl (f2_11))), (hta, .inr (1, [.ref hty, .int (nI k)])), (hty, .inl (cB, 256, .inl ((f)))), (hdo, .inr (5, [.ref hra, .int (nI df), .int (nI dn)])), (hra, .inl (cR, 64, .inr (.inr (.inr (.inr (((rvA rv)))))))), (a9, .inr (6, [.ref pa9, .int au9, .int sm9])), (pa9, .inl (cB, np9, .inl ((fp9))))] : va_W) ++ pl9) := hD
          replace hK : va_K (dC, dI) vwCl [(cB, .byte), (cR, .object R_V)] s := hK
          have hw_15 := hw
          rcases hm9 : mak S9 T with _ | Y9
          · rw [hm9] at hw_15; obtain rfl : r_9 = 0 := hw_15
            have hbad : agn (rvP rv) r9 = none := agJ_none (j := j + 1) (by rw [agJ_step hd9, hf4, stp6_s (rvP_s hq9)]; exact hm9) 6 (by omega)
            replace hP := (hP.part (cx := [(h0, .inr (2, [.ref hta, .ref hba, .ref pa9, .int (nI a2_13)])), (hba, .inr (1, [.ref hby, .int (nI k2_10)])), (hby, .inl (cB, 256, .inl (f2_11))), (hta, .inr (1, [.ref hty, .int (nI k)])), (hty, .inl (cB, 256, .inl ((f)))), (hdo, .inr (5, [.ref hra, .int (nI df), .int (nI dn)])), (hra, .inl (cR, 64, .inr (.inr (.inr (.inr (((rvA rv)))))))), (a9, .inr (6, [.ref pa9, .int au9, .int sm9])), (pa9, .inl (cB, np9, .inl ((fp9))))]) [0, 1, 2, 3, 4, 5, 6, 7, 8] rfl).perm (pl_take (X := [(h0, .inr (2, [.ref hta, .ref hba, .ref pa9, .int (nI a2_13)])), (hba, .inr (1, [.ref hby, .int (nI k2_10)])), (hby, .inl (cB, 256, .inl (f2_11))), (hta, .inr (1, [.ref hty, .int (nI k)])), (hty, .inl (cB, 256, .inl ((f)))), (hdo, .inr (5, [.ref hra, .int (nI df), .int (nI dn)])), (hra, .inl (cR, 64, .inr (.inr (.inr (.inr (((rvA rv))))))))]) hp9).symm
            replace hD := (hD.part (cx := [(h0, .inr (2, [.ref hta, .ref hba, .ref pa9, .int (nI a2_13)])), (hba, .inr (1, [.ref hby, .int (nI k2_10)])), (hby, .inl (cB, 256, .inl (f2_11))), (hta, .inr (1, [.ref hty, .int (nI k)])), (hty, .inl (cB, 256, .inl ((f)))), (hdo, .inr (5, [.ref hra, .int (nI df), .int (nI dn)])), (hra, .inl (cR, 64, .inr (.inr (.inr (.inr (((rvA rv)))))))), (a9, .inr (6, [.ref pa9, .int au9, .int sm9])), (pa9, .inl (cB, np9, .inl ((fp9))))]) [0, 1, 2, 3, 4, 5, 6, 7, 8] (by decide) rfl).perm (pl_take (X := [(h0, .inr (2, [.ref hta, .ref hba, .ref pa9, .int (nI a2_13)])), (hba, .inr (1, [.ref hby, .int (nI k2_10)])), (hby, .inl (cB, 256, .inl (f2_11))), (hta, .inr (1, [.ref hty, .int (nI k)])), (hty, .inl (cB, 256, .inl ((f)))), (hdo, .inr (5, [.ref hra, .int (nI df), .int (nI dn)])), (hra, .inl (cR, 64, .inr (.inr (.inr (.inr (((rvA rv))))))))]) hp9).symm
            refine lv_istore_n (lv' := [(3, .int 0), (4, .int (nI (hi6 (j + 1) r9))), (5, .int (nI (bt6 j))), (0, .ref h0), (1, .ref hdo), (2, .int (nI r9))]) hx hb d_M_makeAgain_53 rfl hl (by decide) rfl (fun ls hl => ?_)
            refine lv_iload hx hb d_M_makeAgain_54 (lv_at hl 2 rfl) ?_
            refine lv_iconst (v := 2) hx hb d_M_makeAgain_56 (by decide) ?_
            refine lv_idiv hx hb d_M_makeAgain_57 (by decide +kernel) ?_
            refine lv_topi (fun x_16 ex_16 => ?_)
            obtain rfl : x_16 = (nI (bt6 (j + 1))) := by rw [ex_16]; rw [← hb9.2.2.2.2.1]; exact (show nI (bt6 j) / nI 2 = nI (bt6 j / 2) from pk_div (by omega) (by decide) (by decide))
            clear ex_16
            refine lv_istore (lv' := [(5, .int (nI (bt6 (j + 1)))), (3, .int 0), (4, .int (nI (hi6 (j + 1) r9))), (0, .ref h0), (1, .ref hdo), (2, .int (nI r9))]) hx hb d_M_makeAgain_58 hl (by decide) rfl (fun ls hl => ?_)
            refine lv_goto (tgt := 23) hx hb d_M_makeAgain_60 (by decide) ?_
            refine lv_iload hx hb d_M_makeAgain_23 (lv_at hl 0 rfl) ?_
            refine lv_if_le (tgt := 63) hx hb d_M_makeAgain_25 (by decide) (fun c_17 => ?_) (fun c_17 => ?_)
            · have hz8 := hj
              exact kk2 hba hby hta hty k2_10 f2_11 k (f) (.ref pa9) (nI a2_13) T2_12 T hu_14_0.1 hu_14_0.2 hf0 hf1 hbad _ _ (hP.part (cx := [(h0, .inr (2, [.ref hta, .ref hba, .ref pa9, .int (nI a2_13)])), (hba, .inr (1, [.ref hby, .int (nI k2_10)])), (hby, .inl (cB, 256, .inl (f2_11))), (hta, .inr (1, [.ref hty, .int (nI k)])), (hty, .inl (cB, 256, .inl ((f)))), (hdo, .inr (5, [.ref hra, .int (nI df), .int (nI dn)])), (hra, .inl (cR, 64, .inr (.inr (.inr (.inr (((rvA rv))))))))]) [0, 1, 2, 3, 4, 5, 6] rfl) (hD.part (cx := [(h0, .inr (2, [.ref hta, .ref hba, .ref pa9, .int (nI a2_13)])), (hba, .inr (1, [.ref hby, .int (nI k2_10)])), (hby, .inl (cB, 256, .inl (f2_11))), (hta, .inr (1, [.ref hty, .int (nI k)])), (hty, .inl (cB, 256, .inl ((f)))), (hdo, .inr (5, [.ref hra, .int (nI df), .int (nI dn)])), (hra, .inl (cR, 64, .inr (.inr (.inr (.inr (((rvA rv))))))))]) [0, 1, 2, 3, 4, 5, 6] (by decide) rfl) hS ls (lv_sub hl [1, 3] rfl)
            · have hz8 := hj
              refine lv_iload_n hx hb d_M_makeAgain_28 rfl (lv_at hl 1 rfl) ?_
              refine lv_if_eq (tgt := 63) hx hb d_M_makeAgain_29 (by decide) (fun _ => ?_) (fun h9 => absurd h9 (by decide +kernel))
              exact kk2 hba hby hta hty k2_10 f2_11 k (f) (.ref pa9) (nI a2_13) T2_12 T hu_14_0.1 hu_14_0.2 hf0 hf1 hbad _ _ (hP.part (cx := [(h0, .inr (2, [.ref hta, .ref hba, .ref pa9, .int (nI a2_13)])), (hba, .inr (1, [.ref hby, .int (nI k2_10)])), (hby, .inl (cB, 256, .inl (f2_11))), (hta, .inr (1, [.ref hty, .int (nI k)])), (hty, .inl (cB, 256, .inl ((f)))), (hdo, .inr (5, [.ref hra, .int (nI df), .int (nI dn)])), (hra, .inl (cR, 64, .inr (.inr (.inr (.inr (((rvA rv))))))))]) [0, 1, 2, 3, 4, 5, 6] rfl) (hD.part (cx := [(h0, .inr (2, [.ref hta, .ref hba, .ref pa9, .int (nI a2_13)])), (hba, .inr (1, [.ref hby, .int (nI k2_10)])), (hby, .inl (cB, 256, .inl (f2_11))), (hta, .inr (1, [.ref hty, .int (nI k)])), (hty, .inl (cB, 256, .inl ((f)))), (hdo, .inr (5, [.ref hra, .int (nI df), .int (nI dn)])), (hra, .inl (cR, 64, .inr (.inr (.inr (.inr (((rvA rv))))))))]) [0, 1, 2, 3, 4, 5, 6] (by decide) rfl) hS ls (lv_sub hl [1, 3] rfl)
          · rw [hm9] at hw_15; obtain rfl : r_9 = 1 := hw_15; obtain rfl := hu_14_1 Y9 hm9
            replace hP := (hP.part (cx := [(h0, .inr (2, [.ref hta, .ref hba, .ref pa9, .int (nI a2_13)])), (hba, .inr (1, [.ref hby, .int (nI k2_10)])), (hby, .inl (cB, 256, .inl (f2_11))), (hta, .inr (1, [.ref hty, .int (nI k)])), (hty, .inl (cB, 256, .inl ((f)))), (hdo, .inr (5, [.ref hra, .int (nI df), .int (nI dn)])), (hra, .inl (cR, 64, .inr (.inr (.inr (.inr (((rvA rv)))))))), (a9, .inr (6, [.ref pa9, .int au9, .int sm9])), (pa9, .inl (cB, np9, .inl ((fp9))))]) [0, 1, 2, 3, 4, 5, 6, 7, 8] rfl).perm (pl_take (X := [(h0, .inr (2, [.ref hta, .ref hba, .ref pa9, .int (nI a2_13)])), (hba, .inr (1, [.ref hby, .int (nI k2_10)])), (hby, .inl (cB, 256, .inl (f2_11))), (hta, .inr (1, [.ref hty, .int (nI k)])), (hty, .inl (cB, 256, .inl ((f)))), (hdo, .inr (5, [.ref hra, .int (nI df), .int (nI dn)])), (hra, .inl (cR, 64, .inr (.inr (.inr (.inr (((rvA rv))))))))]) hp9).symm
            replace hD := (hD.part (cx := [(h0, .inr (2, [.ref hta, .ref hba, .ref pa9, .int (nI a2_13)])), (hba, .inr (1, [.ref hby, .int (nI k2_10)])), (hby, .inl (cB, 256, .inl (f2_11))), (hta, .inr (1, [.ref hty, .int (nI k)])), (hty, .inl (cB, 256, .inl ((f)))), (hdo, .inr (5, [.ref hra, .int (nI df), .int (nI dn)])), (hra, .inl (cR, 64, .inr (.inr (.inr (.inr (((rvA rv)))))))), (a9, .inr (6, [.ref pa9, .int au9, .int sm9])), (pa9, .inl (cB, np9, .inl ((fp9))))]) [0, 1, 2, 3, 4, 5, 6, 7, 8] (by decide) rfl).perm (pl_take (X := [(h0, .inr (2, [.ref hta, .ref hba, .ref pa9, .int (nI a2_13)])), (hba, .inr (1, [.ref hby, .int (nI k2_10)])), (hby, .inl (cB, 256, .inl (f2_11))), (hta, .inr (1, [.ref hty, .int (nI k)])), (hty, .inl (cB, 256, .inl ((f)))), (hdo, .inr (5, [.ref hra, .int (nI df), .int (nI dn)])), (hra, .inl (cR, 64, .inr (.inr (.inr (.inr (((rvA rv))))))))]) hp9).symm
            refine lv_istore_n (lv' := [(3, .int 1), (4, .int (nI (hi6 (j + 1) r9))), (5, .int (nI (bt6 j))), (0, .ref h0), (1, .ref hdo), (2, .int (nI r9))]) hx hb d_M_makeAgain_53 rfl hl (by decide) rfl (fun ls hl => ?_)
            refine lv_iload hx hb d_M_makeAgain_54 (lv_at hl 2 rfl) ?_
            refine lv_iconst (v := 2) hx hb d_M_makeAgain_56 (by decide) ?_
            refine lv_idiv hx hb d_M_makeAgain_57 (by decide +kernel) ?_
            refine lv_topi (fun x_18 ex_18 => ?_)
            obtain rfl : x_18 = (nI (bt6 (j + 1))) := by rw [ex_18]; rw [← hb9.2.2.2.2.1]; exact (show nI (bt6 j) / nI 2 = nI (bt6 j / 2) from pk_div (by omega) (by decide) (by decide))
            clear ex_18
            refine lv_istore (lv' := [(5, .int (nI (bt6 (j + 1)))), (3, .int 1), (4, .int (nI (hi6 (j + 1) r9))), (0, .ref h0), (1, .ref hdo), (2, .int (nI r9))]) hx hb d_M_makeAgain_58 hl (by decide) rfl (fun ls hl => ?_)
            refine lv_goto (tgt := 23) hx hb d_M_makeAgain_60 (by decide) ?_
            exact ih (j + 1) hlt (by omega) hba hby hta hty k2_10 f2_11 k (f) (.ref pa9) (nI a2_13) T2_12 T hu_14_0.1 hu_14_0.2 hf0 hf1 (by rw [agJ_step hd9, hf4, stp6_s (rvP_s hq9)]; exact hm9) _ _ (hP.part (cx := [(h0, .inr (2, [.ref hta, .ref hba, .ref pa9, .int (nI a2_13)])), (hba, .inr (1, [.ref hby, .int (nI k2_10)])), (hby, .inl (cB, 256, .inl (f2_11))), (hta, .inr (1, [.ref hty, .int (nI k)])), (hty, .inl (cB, 256, .inl ((f)))), (hdo, .inr (5, [.ref hra, .int (nI df), .int (nI dn)])), (hra, .inl (cR, 64, .inr (.inr (.inr (.inr (((rvA rv))))))))]) [0, 1, 2, 3, 4, 5, 6] rfl) (hD.part (cx := [(h0, .inr (2, [.ref hta, .ref hba, .ref pa9, .int (nI a2_13)])), (hba, .inr (1, [.ref hby, .int (nI k2_10)])), (hby, .inl (cB, 256, .inl (f2_11))), (hta, .inr (1, [.ref hty, .int (nI k)])), (hty, .inl (cB, 256, .inl ((f)))), (hdo, .inr (5, [.ref hra, .int (nI df), .int (nI dn)])), (hra, .inl (cR, 64, .inr (.inr (.inr (.inr (((rvA rv))))))))]) [0, 1, 2, 3, 4, 5, 6] (by decide) rfl) hS ls (lv_sub hl [0, 2, 1, 3, 4, 5] rfl)
set_option maxHeartbeats 4000000 in
set_option maxRecDepth 100000 in
theorem g_makeAgain_S (l : Launch) (dC : Nat → ClassId) (dI : Nat → Nat → Nat) (sz : Nat) (h0 : Nat) (hta : Nat) (hty : Nat) (hba : Nat) (hby : Nat) (cB : ClassId) (k : Nat) (f : Nat → Int32) (kb : Nat) (fb : Nat → Int32) (vp : Value) (a0 : Int32) (T : List Int32) (Bs : List Int32) (hdo : Nat) (hra : Nat) (cR : ClassId) (df : Nat) (dn : Nat) (rv : Nat → Option Rc) (pl : va_W) (r9 : Nat) (Y : List Int32) (htt : tx T k f) (hk : k ≤ 256) (htb : tx Bs kb fb) (hkb : kb ≤ 256) (hdn : dn ≤ 64) (hr9 : r9 < dn) (hpl : plR cB rv pl) (hok : rvOk rv) (hag : agn (rvP rv) r9 = some Y) : Met l y_M_makeAgain k_M_makeAgain ({ frames := 4, cells := 0, slots := 0, locals := 94 } : Room) (va_Pc [.ref h0, .ref hdo, .int (nI r9)] (pc_E (dC, dI) (([(h0, .inr (2, [.ref hba, .ref hta, vp, .int a0])), (hta, .inr (1, [.ref hty, .int (nI k)])), (hty, .inl (cB, 256, .inl (f))), (hba, .inr (1, [.ref hby, .int (nI kb)])), (hby, .inl (cB, 256, .inl (fb))), (hdo, .inr (5, [.ref hra, .int (nI df), .int (nI dn)])), (hra, .inl (cR, 64, .inr (.inr (.inr (.inr ((rvA rv)))))))] : va_W) ++ pl) [(cB, .byte), (cR, .object R_V)] sz)) (va_Qr (fun (_ : Unit) => True) (fun (_ : Unit) ra t => ∃ (hty2 : Nat) (hba2 : Nat) (hby2 : Nat) (k2 : Nat) (f2 : Nat → Int32) (kb2 : Nat) (fb2 : Nat → Int32) (vp2 : Value) (a2 : Int32) (B2 : List Int32), ((tx Y k2 f2 ∧ k2 ≤ 256) ∧ (tx B2 kb2 fb2 ∧ kb2 ≤ 256)) ∧ at_E (dC, dI) (va_A (([(h0, .inr (2, [.ref hba, .ref hta, vp, .int a0])), (hta, .inr (1, [.ref hty, .int (nI k)])), (hty, .inl (cB, 256, .inl (f))), (hba, .inr (1, [.ref hby, .int (nI kb)])), (hby, .inl (cB, 256, .inl (fb))), (hdo, .inr (5, [.ref hra, .int (nI df), .int (nI dn)])), (hra, .inl (cR, 64, .inr (.inr (.inr (.inr ((rvA rv)))))))] : va_W) ++ pl) sz) (([(h0, .inr (2, [.ref hba2, .ref ra, vp2, .int a2])), (ra, .inr (1, [.ref hty2, .int (nI k2)])), (hty2, .inl (cB, 256, .inl (f2))), (hba2, .inr (1, [.ref hby2, .int (nI kb2)])), (hby2, .inl (cB, 256, .inl (fb2))), (hdo, .inr (5, [.ref hra, .int (nI df), .int (nI dn)])), (hra, .inl (cR, 64, .inr (.inr (.inr (.inr ((rvA rv)))))))] : va_W) ++ pl) [(cB, .byte), (cR, .object R_V)] t) (va_A (([(h0, .inr (2, [.ref hba, .ref hta, vp, .int a0])), (hta, .inr (1, [.ref hty, .int (nI k)])), (hty, .inl (cB, 256, .inl (f))), (hba, .inr (1, [.ref hby, .int (nI kb)])), (hby, .inl (cB, 256, .inl (fb))), (hdo, .inr (5, [.ref hra, .int (nI df), .int (nI dn)])), (hra, .inl (cR, 64, .inr (.inr (.inr (.inr ((rvA rv)))))))] : va_W) ++ pl) sz)) 0 0 (va_A (([(h0, .inr (2, [.ref hba, .ref hta, vp, .int a0])), (hta, .inr (1, [.ref hty, .int (nI k)])), (hty, .inl (cB, 256, .inl (f))), (hba, .inr (1, [.ref hby, .int (nI kb)])), (hby, .inl (cB, 256, .inl (fb))), (hdo, .inr (5, [.ref hra, .int (nI df), .int (nI dn)])), (hra, .inl (cR, 64, .inr (.inr (.inr (.inr ((rvA rv)))))))] : va_W) ++ pl) sz) := by
  refine Met.ofW (cc := prog_3_method_3_code) (maxL := 6) (ret := (some (.object "TextKeeper$Text"))) (by decide) rfl ?_
  intro p e s m args below meth c s₁ B hml hv
  obtain ⟨rfl, hsz, hP, hK, hD0, hN⟩ := hv
  have hx := B.exec
  have hb := B.bytes
  have hr := B.returns
  have hts := atoms_spec (ws := k_M_makeAgain) B.pre
  have hw0 : ∀ w ∈ w0, w.before _ s = true := fun w h => hts w (List.mem_cons_of_mem _ h)
  have hown : s.vm.findClass R_M = some m.cls := findClass_of_methodNamed B.named
  have hlocks := B.notSynchronized
  subst hsz
  have hD := hD0.self (sz := s.heap.size)
  generalize hAe : va_A (([(h0, .inr (2, [.ref hba, .ref hta, vp, .int a0])), (hta, .inr (1, [.ref hty, .int (nI k)])), (hty, .inl (cB, 256, .inl (f))), (hba, .inr (1, [.ref hby, .int (nI kb)])), (hby, .inl (cB, 256, .inl (fb))), (hdo, .inr (5, [.ref hra, .int (nI df), .int (nI dn)])), (hra, .inl (cR, 64, .inr (.inr (.inr (.inr ((rvA rv)))))))] : va_W) ++ pl) s.heap.size = A at hD ⊢
  have hA : ∀ q : Nat, s.heap.size ≤ q → A q := fun q h => by rw [← hAe]; exact Or.inr h
  have hS : va_S A s.heap s.heap [] := va_S.rf
  have hP : va_P (dC, dI) vwCl (([(h0, .inr (2, [.ref hba, .ref hta, vp, .int a0])), (hta, .inr (1, [.ref hty, .int (nI k)])), (hty, .inl (cB, 256, .inl (f))), (hba, .inr (1, [.ref hby, .int (nI kb)])), (hby, .inl (cB, 256, .inl (fb))), (hdo, .inr (5, [.ref hra, .int (nI df), .int (nI dn)])), (hra, .inl (cR, 64, .inr (.inr (.inr (.inr ((rvA rv)))))))] : va_W) ++ pl) s.heap := hP
  have hl := lv_entry ([.ref h0, .ref hdo, .int (nI r9)]) (n := 6) (Nat.le_of_ble_eq_true rfl)
  rw [lg_entry_eq]
  generalize (lg_sl ([.ref h0, .ref hdo, .int (nI r9)]) ++ List.replicate (6 - (lg_sl ([.ref h0, .ref hdo, .int (nI r9)])).length) Slot.unset).toArray = ls at hl ⊢
  have hl : lv_has ls 6 [(0, .ref h0), (1, .ref hdo), (2, .int (nI r9))] := hl
  refine lv_aload_n hx hb d_M_makeAgain_0 rfl (lv_at hl 0 rfl) ?_
  refine va_get (D := (dC, dI)) (ci := 2) (v := .ref hta) (C := R_M) (T := F_M) (N := 4) hx hb hw0 in_M hown hK hP 0 rfl rfl 1 (by decide) (hw0 (.fieldLink R_M 18 "TextKeeper$Maker" "text" "LTextKeeper$Text;") wm_156) (fun _ h9 => h9) rfl d_M_makeAgain_1 ?_
  refine lv_iconst (v := 0) hx hb d_M_makeAgain_4 (by decide) ?_
  have hPc := hP.sub (ws' := [(hta, .inr (1, [.ref hty, .int (nI k)])), (hty, .inl (cB, 256, .inl ((f))))]) [1, 2] rfl
  have hKc := hK.sub (tys' := [(cB, .byte)]) [0] rfl
  have hDc := hD.sub (ws' := [(hta, .inr (1, [.ref hty, .int (nI k)])), (hty, .inl (cB, 256, .inl ((f))))]) [1, 2] (by decide) rfl
  have hFc := va_free (wc := [(hta, .inr (1, [.ref hty, .int (nI k)])), (hty, .inl (cB, 256, .inl ((f))))]) hD hS hA [1, 2] rfl
  refine va_calli (va_runV (As := [.int 0]) (rest := []) ⟨hx, hb, hml, hown, hw0⟩ (g_shorten_T l dC dI s.heap.size hta hty cB k (f) T 0 (by first | assumption | decide | omega) (by first | assumption | decide | omega) (by first | assumption | decide | omega)) (cwV 1 hw0 (gd_Vm wm_317 wm_318 wm_319 wm_151 wm_320) rfl rfl rfl (by decide +kernel) ⟨by decide +kernel, by decide +kernel⟩) (prV_E hPc hKc hDc hN (va_recv hKc hPc (ci := 1) (q0 := 0) rfl rfl)) rfl rfl hl.1 rfl (lv_room (Nat.le_of_ble_eq_true rfl)) d_M_makeAgain_5 ⟨by decide +kernel, by decide +kernel⟩) hS (fun q _ h => hFc q h) hFc (fun r_1 u t H1 locs ht hvm hw hB hz1 hk1 hS => ?_)
  obtain ⟨hu_2, hP1, hK1, hD1⟩ := hB
  rw [ht] at hP1
  have hK1 := va_K.moved hvm.symm hK1
  try dsimp only at hw
  obtain ⟨hP, hD⟩ := va_joinQ (wr := [(h0, .inr (2, [.ref hba, .ref hta, vp, .int a0])), (hba, .inr (1, [.ref hby, .int (nI kb)])), (hby, .inl (cB, 256, .inl (fb))), (hdo, .inr (5, [.ref hra, .int (nI df), .int (nI dn)])), (hra, .inl (cR, 64, .inr (.inr (.inr (.inr ((rvA rv)))))))]) (w1 := [(hta, .inr (1, [.ref hty, .int (nI 0)])), (hty, .inl (cB, 256, .inl ((f))))]) hP hD [1, 2] [0, 3, 4, 5, 6] rfl rfl (by decide) (by decide) hk1 hFc hP1 hD1
  generalize H1 = H at hP hS ⊢
  replace hP : va_P (dC, dI) vwCl (([(h0, .inr (2, [.ref hba, .ref hta, vp, .int a0])), (hba, .inr (1, [.ref hby, .int (nI kb)])), (hby, .inl (cB, 256, .inl (fb))), (hdo, .inr (5, [.ref hra, .int (nI df), .int (nI dn)])), (hra, .inl (cR, 64, .inr (.inr (.inr (.inr ((rvA rv))))))), (hta, .inr (1, [.ref hty, .int (nI 0)])), (hty, .inl (cB, 256, .inl ((f))))] : va_W) ++ pl) H := hP
  replace hD : va_D A (([(h0, .inr (2, [.ref hba, .ref hta, vp, .int a0])), (hba, .inr (1, [.ref hby, .int (nI kb)])), (hby, .inl (cB, 256, .inl (fb))), (hdo, .inr (5, [.ref hra, .int (nI df), .int (nI dn)])), (hra, .inl (cR, 64, .inr (.inr (.inr (.inr ((rvA rv))))))), (hta, .inr (1, [.ref hty, .int (nI 0)])), (hty, .inl (cB, 256, .inl ((f))))] : va_W) ++ pl) := hD
  replace hK : va_K (dC, dI) vwCl [(cB, .byte), (cR, .object R_V)] s := hK
  obtain rfl : r_1 = 1 := hw
  refine lv_pop hx hb d_M_makeAgain_8 rfl ?_
  have h0t : tx [] 0 (f) := (by have h9 := hu_2; rw [List.take_zero] at h9; exact h9)
  rcases hq9 : rv 0 with _ | ⟨a9, pa9, np9, fp9, S9, au9, sm9⟩
  · have hkN : atN dn (rvA rv) 0 = none := (show atN dn (rvA rv) (nI 0) = none from by rw [atN_nI (by omega) (by omega)]; exact rvA_n hq9)
    have hbad : agn (rvP rv) r9 = none := agJ_none (j := 0) (stp6_n (rvP_n hq9)) 6 (by omega)
    exact absurd (hbad.symm.trans hag) (fun q => by cases q)
  · obtain ⟨pl9, hp9⟩ := hpl _ _ (by omega) hq9
    have hP := hP.perm (pl_take hp9)
    have hD := hD.perm (pl_take hp9)
    replace hP : va_P (dC, dI) vwCl (([(h0, .inr (2, [.ref hba, .ref hta, vp, .int a0])), (hba, .inr (1, [.ref hby, .int (nI kb)])), (hby, .inl (cB, 256, .inl (fb))), (hdo, .inr (5, [.ref hra, .int (nI df), .int (nI dn)])), (hra, .inl (cR, 64, .inr (.inr (.inr (.inr ((rvA rv))))))), (hta, .inr (1, [.ref hty, .int (nI 0)])), (hty, .inl (cB, 256, .inl ((f)))), (a9, .inr (6, [.ref pa9, .int au9, .int sm9])), (pa9, .inl (cB, np9, .inl (fp9)))] : va_W) ++ pl9) H := hP
    replace hD : va_D A (([(h0, .inr (2, [.ref hba, .ref hta, vp, .int a0])), (hba, .inr (1, [.ref hby, .int (nI kb)])), (hby, .inl (cB, 256, .inl (fb))), (hdo, .inr (5, [.ref hra, .int (nI df), .int (nI dn)])), (hra, .inl (cR, 64, .inr (.inr (.inr (.inr ((rvA rv))))))), (hta, .inr (1, [.ref hty, .int (nI 0)])), (hty, .inl (cB, 256, .inl ((f)))), (a9, .inr (6, [.ref pa9, .int au9, .int sm9])), (pa9, .inl (cB, np9, .inl (fp9)))] : va_W) ++ pl9) := hD
    have ho9 := hok _ _ hq9
    have hs9 : tx S9 np9 fp9 := ho9.1
    have hnp : np9 ≤ 1024 := ho9.2
    have hkS : atN dn (rvA rv) 0 = some a9 := (show atN dn (rvA rv) (nI 0) = some a9 from by rw [atN_nI (by omega) (by omega)]; exact rvA_s hq9)
    refine lv_aload_n hx hb d_M_makeAgain_9 rfl (lv_at hl 0 rfl) ?_
    refine lv_aload_n hx hb d_M_makeAgain_10 rfl (lv_at hl 1 rfl) ?_
    refine lv_iconst (v := 0) hx hb d_M_makeAgain_11 (by decide) ?_
    have hPc := hP.sub (ws' := [(h0, .inr (2, [.ref hba, .ref hta, vp, .int a0])), (hta, .inr (1, [.ref hty, .int (nI 0)])), (hty, .inl (cB, 256, .inl (((f))))), (hba, .inr (1, [.ref hby, .int (nI kb)])), (hby, .inl (cB, 256, .inl ((fb)))), (hdo, .inr (5, [.ref hra, .int (nI df), .int (nI dn)])), (hra, .inl (cR, 64, .inr (.inr (.inr (.inr (((rvA rv)))))))), (a9, .inr (6, [.ref pa9, .int au9, .int sm9])), (pa9, .inl (cB, np9, .inl ((fp9))))]) [0, 5, 6, 1, 2, 3, 4, 7, 8] rfl
    have hKc := hK.sub (tys' := [(cB, .byte), (cR, .object R_V)]) [0, 1] rfl
    have hDc := hD.sub (ws' := [(h0, .inr (2, [.ref hba, .ref hta, vp, .int a0])), (hta, .inr (1, [.ref hty, .int (nI 0)])), (hty, .inl (cB, 256, .inl (((f))))), (hba, .inr (1, [.ref hby, .int (nI kb)])), (hby, .inl (cB, 256, .inl ((fb)))), (hdo, .inr (5, [.ref hra, .int (nI df), .int (nI dn)])), (hra, .inl (cR, 64, .inr (.inr (.inr (.inr (((rvA rv)))))))), (a9, .inr (6, [.ref pa9, .int au9, .int sm9])), (pa9, .inl (cB, np9, .inl ((fp9))))]) [0, 5, 6, 1, 2, 3, 4, 7, 8] (by decide) rfl
    have hFc := va_free (wc := [(h0, .inr (2, [.ref hba, .ref hta, vp, .int a0])), (hta, .inr (1, [.ref hty, .int (nI 0)])), (hty, .inl (cB, 256, .inl (((f))))), (hba, .inr (1, [.ref hby, .int (nI kb)])), (hby, .inl (cB, 256, .inl ((fb)))), (hdo, .inr (5, [.ref hra, .int (nI df), .int (nI dn)])), (hra, .inl (cR, 64, .inr (.inr (.inr (.inr (((rvA rv)))))))), (a9, .inr (6, [.ref pa9, .int au9, .int sm9])), (pa9, .inl (cB, np9, .inl ((fp9))))]) hD hS hA [0, 5, 6, 1, 2, 3, 4, 7, 8] rfl
    refine va_calli (va_runV (As := [.ref hdo, .int 0]) (rest := []) ⟨hx, hb, hml, hown, hw0⟩ (g_makeNext_S l dC dI H.size h0 hta hty hba hby cB 0 ((f)) kb (fb) vp a0 ([]) Bs hdo hra cR df dn ((rvA rv)) a9 pa9 np9 (fp9) au9 sm9 S9 0 (by first | assumption | decide | omega) (by first | assumption | decide | omega) (by first | assumption | decide | omega) (by first | assumption | decide | omega) (by first | assumption | decide | omega) (by first | assumption | decide | omega) (by first | assumption | decide | omega) (by first | assumption | decide | omega)) (cwV 2 hw0 (gd_Vm wm_321 wm_322 wm_323 wm_169 wm_324) rfl rfl rfl (by decide +kernel) ⟨by decide +kernel, by decide +kernel⟩) (prV_E hPc hKc hDc hN (va_recv hKc hPc (ci := 2) (q0 := 0) rfl rfl)) rfl rfl hl.1 rfl (lv_room (Nat.le_of_ble_eq_true rfl)) d_M_makeAgain_12 ⟨by decide +kernel, by decide +kernel⟩) hS (fun q _ h => hFc q h) hFc (fun r_3 u t H1 locs ht hvm hw hB hz1 hk1 hS => ?_)
    obtain ⟨k2_4, f2_5, T2_6, a2_7, ⟨hu_8_0, hu_8_1⟩, hP1, hK1, hD1⟩ := hB
    rw [ht] at hP1
    have hK1 := va_K.moved hvm.symm hK1
    try dsimp only at hw
    obtain ⟨hP, hD⟩ := va_joinQ (wr := []) (w1 := [(h0, .inr (2, [.ref hta, .ref hba, .ref pa9, .int (nI a2_7)])), (hba, .inr (1, [.ref hby, .int (nI k2_4)])), (hby, .inl (cB, 256, .inl (f2_5))), (hta, .inr (1, [.ref hty, .int (nI 0)])), (hty, .inl (cB, 256, .inl (((f))))), (hdo, .inr (5, [.ref hra, .int (nI df), .int (nI dn)])), (hra, .inl (cR, 64, .inr (.inr (.inr (.inr (((rvA rv)))))))), (a9, .inr (6, [.ref pa9, .int au9, .int sm9])), (pa9, .inl (cB, np9, .inl ((fp9))))]) hP hD [0, 5, 6, 1, 2, 3, 4, 7, 8] [] rfl rfl (by decide) (by decide) hk1 hFc hP1 hD1
    generalize H1 = H at hP hS ⊢
    replace hP : va_P (dC, dI) vwCl (([(h0, .inr (2, [.ref hta, .ref hba, .ref pa9, .int (nI a2_7)])), (hba, .inr (1, [.ref hby, .int (nI k2_4)])), (hby, .inl (cB, 256, .inl (f2_5))), (hta, .inr (1, [.ref hty, .int (nI 0)])), (hty, .inl (cB, 256, .inl (((f))))), (hdo, .inr (5, [.ref hra, .int (nI df), .int (nI dn)])), (hra, .inl (cR, 64, .inr (.inr (.inr (.inr (((rvA rv)))))))), (a9, .inr (6, [.ref pa9, .int au9, .int sm9])), (pa9, .inl (cB, np9, .inl ((fp9))))] : va_W) ++ pl9) H := hP
    replace hD : va_D A (([(h0, .inr (2, [.ref hta, .ref hba, .ref pa9, .int (nI a2_7)])), (hba, .inr (1, [.ref hby, .int (nI k2_4)])), (hby, .inl (cB, 256, .inl (f2_5))), (hta, .inr (1, [.ref hty, .int (nI 0)])), (hty, .inl (cB, 256, .inl (((f))))), (hdo, .inr (5, [.ref hra, .int (nI df), .int (nI dn)])), (hra, .inl (cR, 64, .inr (.inr (.inr (.inr (((rvA rv)))))))), (a9, .inr (6, [.ref pa9, .int au9, .int sm9])), (pa9, .inl (cB, np9, .inl ((fp9))))] : va_W) ++ pl9) := hD
    replace hK : va_K (dC, dI) vwCl [(cB, .byte), (cR, .object R_V)] s := hK
    have hw_9 := hw
    rcases hm9 : mak S9 [] with _ | Y9
    · rw [hm9] at hw_9; obtain rfl : r_3 = 0 := hw_9
      have hbad : agn (rvP rv) r9 = none := agJ_none (j := 0) (by show stp6 _ (some []) 0 = none; rw [stp6_s (rvP_s hq9)]; exact hm9) 6 (by omega)
      exact absurd (hbad.symm.trans hag) (fun q => by cases q)
    · rw [hm9] at hw_9; obtain rfl : r_3 = 1 := hw_9; obtain rfl := hu_8_1 Y9 hm9
      replace hP := (hP.part (cx := [(h0, .inr (2, [.ref hta, .ref hba, .ref pa9, .int (nI a2_7)])), (hba, .inr (1, [.ref hby, .int (nI k2_4)])), (hby, .inl (cB, 256, .inl (f2_5))), (hta, .inr (1, [.ref hty, .int (nI 0)])), (hty, .inl (cB, 256, .inl (((f))))), (hdo, .inr (5, [.ref hra, .int (nI df), .int (nI dn)])), (hra, .inl (cR, 64, .inr (.inr (.inr (.inr (((rvA rv)))))))), (a9, .inr (6, [.ref pa9, .int au9, .int sm9])), (pa9, .inl (cB, np9, .inl ((fp9))))]) [0, 1, 2, 3, 4, 5, 6, 7, 8] rfl).perm (pl_take (X := [(h0, .inr (2, [.ref hta, .ref hba, .ref pa9, .int (nI a2_7)])), (hba, .inr (1, [.ref hby, .int (nI k2_4)])), (hby, .inl (cB, 256, .inl (f2_5))), (hta, .inr (1, [.ref hty, .int (nI 0)])), (hty, .inl (cB, 256, .inl (((f))))), (hdo, .inr (5, [.ref hra, .int (nI df), .int (nI dn)])), (hra, .inl (cR, 64, .inr (.inr (.inr (.inr (((rvA rv))))))))]) hp9).symm
      replace hD := (hD.part (cx := [(h0, .inr (2, [.ref hta, .ref hba, .ref pa9, .int (nI a2_7)])), (hba, .inr (1, [.ref hby, .int (nI k2_4)])), (hby, .inl (cB, 256, .inl (f2_5))), (hta, .inr (1, [.ref hty, .int (nI 0)])), (hty, .inl (cB, 256, .inl (((f))))), (hdo, .inr (5, [.ref hra, .int (nI df), .int (nI dn)])), (hra, .inl (cR, 64, .inr (.inr (.inr (.inr (((rvA rv)))))))), (a9, .inr (6, [.ref pa9, .int au9, .int sm9])), (pa9, .inl (cB, np9, .inl ((fp9))))]) [0, 1, 2, 3, 4, 5, 6, 7, 8] (by decide) rfl).perm (pl_take (X := [(h0, .inr (2, [.ref hta, .ref hba, .ref pa9, .int (nI a2_7)])), (hba, .inr (1, [.ref hby, .int (nI k2_4)])), (hby, .inl (cB, 256, .inl (f2_5))), (hta, .inr (1, [.ref hty, .int (nI 0)])), (hty, .inl (cB, 256, .inl (((f))))), (hdo, .inr (5, [.ref hra, .int (nI df), .int (nI dn)])), (hra, .inl (cR, 64, .inr (.inr (.inr (.inr (((rvA rv))))))))]) hp9).symm
      refine lv_istore_n (lv' := [(3, .int 1), (0, .ref h0), (1, .ref hdo), (2, .int (nI r9))]) hx hb d_M_makeAgain_15 rfl hl (by decide) rfl (fun ls hl => ?_)
      refine lv_iconst (v := 0) hx hb d_M_makeAgain_16 (by decide) ?_
      refine lv_istore (lv' := [(4, .int 0), (3, .int 1), (0, .ref h0), (1, .ref hdo), (2, .int (nI r9))]) hx hb d_M_makeAgain_17 hl (by decide) rfl (fun ls hl => ?_)
      refine lv_bipush (v := 32) hx hb d_M_makeAgain_19 (by decide +kernel) ?_
      refine lv_istore (lv' := [(5, .int 32), (4, .int 0), (3, .int 1), (0, .ref h0), (1, .ref hdo), (2, .int (nI r9))]) hx hb d_M_makeAgain_21 hl (by decide) rfl (fun ls hl => ?_)
      refine lq_aga h0 hdo hra cR df dn cB rv pl r9 hdn hr9 hpl hok hx hb hml hown hw0 hN hK hA (fun hta8 hty8 hba8 hby8 k8 f8 kb8 fb8 vp8 a08 T8 Bs8 g0 g1 g2 g3 g4 H locs hP hD hS ls hl => ?_) (fun hta8 hty8 hba8 hby8 k8 f8 kb8 fb8 vp8 a08 T8 Bs8 g0 g1 g2 g3 g4 H locs hP hD hS ls hl => ?_) 7 0 (by omega) (by omega) hba hby hta hty k2_4 f2_5 0 ((f)) (.ref pa9) (nI a2_7) T2_6 ([]) hu_8_0.1 hu_8_0.2 h0t (by omega) (by show stp6 _ (some []) 0 = _; rw [stp6_s (rvP_s hq9)]; exact hm9) _ _ (hP.part (cx := [(h0, .inr (2, [.ref hta, .ref hba, .ref pa9, .int (nI a2_7)])), (hba, .inr (1, [.ref hby, .int (nI k2_4)])), (hby, .inl (cB, 256, .inl (f2_5))), (hta, .inr (1, [.ref hty, .int (nI 0)])), (hty, .inl (cB, 256, .inl (((f))))), (hdo, .inr (5, [.ref hra, .int (nI df), .int (nI dn)])), (hra, .inl (cR, 64, .inr (.inr (.inr (.inr (((rvA rv))))))))]) [0, 1, 2, 3, 4, 5, 6] rfl) (hD.part (cx := [(h0, .inr (2, [.ref hta, .ref hba, .ref pa9, .int (nI a2_7)])), (hba, .inr (1, [.ref hby, .int (nI k2_4)])), (hby, .inl (cB, 256, .inl (f2_5))), (hta, .inr (1, [.ref hty, .int (nI 0)])), (hty, .inl (cB, 256, .inl (((f))))), (hdo, .inr (5, [.ref hra, .int (nI df), .int (nI dn)])), (hra, .inl (cR, 64, .inr (.inr (.inr (.inr (((rvA rv))))))))]) [0, 1, 2, 3, 4, 5, 6] (by decide) rfl) hS ls (by rw [hi6_0 (by omega), show bt6 0 = 32 from rfl]; exact (lv_sub hl [0, 1, 2, 3, 4, 5] rfl))
      · have hT8 := g4
        obtain rfl := Option.some.inj (g4.symm.trans hag)
        refine lv_iload_n hx hb d_M_makeAgain_63 rfl (lv_at hl 2 rfl) ?_
        refine lv_if_eq (tgt := 74) hx hb d_M_makeAgain_64 (by decide) (fun h9 => absurd h9 (by decide +kernel)) (fun _ => ?_)
        refine lv_aload_n hx hb d_M_makeAgain_67 rfl (lv_at hl 3 rfl) ?_
        refine va_get (D := (dC, dI)) (ci := 2) (v := .ref hta8) (C := R_M) (T := F_M) (N := 4) hx hb hw0 in_M hown hK hP 0 rfl rfl 1 (by decide) (hw0 (.fieldLink R_M 18 "TextKeeper$Maker" "text" "LTextKeeper$Text;") wm_156) (fun _ h9 => h9) rfl d_M_makeAgain_68 ?_
        refine lv_goto (tgt := 75) hx hb d_M_makeAgain_71 (by decide) ?_
        have hP9 := hP.part (cx := [(h0, .inr (2, [.ref hba8, .ref hta8, vp8, .int a08])), (hta8, .inr (1, [.ref hty8, .int (nI k8)])), (hty8, .inl (cB, 256, .inl (f8))), (hba8, .inr (1, [.ref hby8, .int (nI kb8)])), (hby8, .inl (cB, 256, .inl (fb8))), (hdo, .inr (5, [.ref hra, .int (nI df), .int (nI dn)])), (hra, .inl (cR, 64, .inr (.inr (.inr (.inr ((rvA rv)))))))]) [0, 1, 2, 3, 4, 5, 6] rfl
        have hD9 := hD.part (cx := [(h0, .inr (2, [.ref hba8, .ref hta8, vp8, .int a08])), (hta8, .inr (1, [.ref hty8, .int (nI k8)])), (hty8, .inl (cB, 256, .inl (f8))), (hba8, .inr (1, [.ref hby8, .int (nI kb8)])), (hby8, .inl (cB, 256, .inl (fb8))), (hdo, .inr (5, [.ref hra, .int (nI df), .int (nI dn)])), (hra, .inl (cR, 64, .inr (.inr (.inr (.inr ((rvA rv)))))))]) [0, 1, 2, 3, 4, 5, 6] (by decide) rfl
        have hK9 := hK.sub (tys' := [(cB, .byte), (cR, .object R_V)]) [0, 1] rfl
        exact W.aret (v := .ref hta8) hx hb hr (Or.inl ⟨_, rfl⟩) (Or.inr ⟨_, rfl⟩) (fun t ht hW => ⟨⟨(), hta8, rfl, trivial, hty8, hba8, hby8, k8, f8, kb8, fb8, vp8, a08, Bs8, ⟨⟨g0, g1⟩, ⟨g2, g3⟩⟩, by rw [ht]; exact hP9, va_K.moved hW.alike hK9, hD9⟩, hS.F ht⟩) hS.2.2 d_M_makeAgain_75
      · exact absurd (g4.symm.trans hag) (fun q => by cases q)
set_option maxHeartbeats 4000000 in
set_option maxRecDepth 100000 in
theorem g_makeAgain_N (l : Launch) (dC : Nat → ClassId) (dI : Nat → Nat → Nat) (sz : Nat) (h0 : Nat) (hta : Nat) (hty : Nat) (hba : Nat) (hby : Nat) (cB : ClassId) (k : Nat) (f : Nat → Int32) (kb : Nat) (fb : Nat → Int32) (vp : Value) (a0 : Int32) (T : List Int32) (Bs : List Int32) (hdo : Nat) (hra : Nat) (cR : ClassId) (df : Nat) (dn : Nat) (rv : Nat → Option Rc) (pl : va_W) (r9 : Nat) (htt : tx T k f) (hk : k ≤ 256) (htb : tx Bs kb fb) (hkb : kb ≤ 256) (hdn : dn ≤ 64) (hr9 : r9 < dn) (hpl : plR cB rv pl) (hok : rvOk rv) (hag : agn (rvP rv) r9 = none) : Met l y_M_makeAgain k_M_makeAgain ({ frames := 4, cells := 0, slots := 0, locals := 94 } : Room) (va_Pc [.ref h0, .ref hdo, .int (nI r9)] (pc_E (dC, dI) (([(h0, .inr (2, [.ref hba, .ref hta, vp, .int a0])), (hta, .inr (1, [.ref hty, .int (nI k)])), (hty, .inl (cB, 256, .inl (f))), (hba, .inr (1, [.ref hby, .int (nI kb)])), (hby, .inl (cB, 256, .inl (fb))), (hdo, .inr (5, [.ref hra, .int (nI df), .int (nI dn)])), (hra, .inl (cR, 64, .inr (.inr (.inr (.inr ((rvA rv)))))))] : va_W) ++ pl) [(cB, .byte), (cR, .object R_V)] sz)) (va_Qq (fun (r : Option Nat) (_ : Unit) => r = none) (fun (_ : Unit) t => ∃ (hta2 : Nat) (hty2 : Nat) (hba2 : Nat) (hby2 : Nat) (k2 : Nat) (f2 : Nat → Int32) (kb2 : Nat) (fb2 : Nat → Int32) (vp2 : Value) (a2 : Int32) (B2 : List Int32) (T2 : List Int32), ((tx T2 k2 f2 ∧ k2 ≤ 256) ∧ (tx B2 kb2 fb2 ∧ kb2 ≤ 256)) ∧ at_E (dC, dI) (va_A (([(h0, .inr (2, [.ref hba, .ref hta, vp, .int a0])), (hta, .inr (1, [.ref hty, .int (nI k)])), (hty, .inl (cB, 256, .inl (f))), (hba, .inr (1, [.ref hby, .int (nI kb)])), (hby, .inl (cB, 256, .inl (fb))), (hdo, .inr (5, [.ref hra, .int (nI df), .int (nI dn)])), (hra, .inl (cR, 64, .inr (.inr (.inr (.inr ((rvA rv)))))))] : va_W) ++ pl) sz) (([(h0, .inr (2, [.ref hba2, .ref hta2, vp2, .int a2])), (hta2, .inr (1, [.ref hty2, .int (nI k2)])), (hty2, .inl (cB, 256, .inl (f2))), (hba2, .inr (1, [.ref hby2, .int (nI kb2)])), (hby2, .inl (cB, 256, .inl (fb2))), (hdo, .inr (5, [.ref hra, .int (nI df), .int (nI dn)])), (hra, .inl (cR, 64, .inr (.inr (.inr (.inr ((rvA rv)))))))] : va_W) ++ pl) [(cB, .byte), (cR, .object R_V)] t) (va_A (([(h0, .inr (2, [.ref hba, .ref hta, vp, .int a0])), (hta, .inr (1, [.ref hty, .int (nI k)])), (hty, .inl (cB, 256, .inl (f))), (hba, .inr (1, [.ref hby, .int (nI kb)])), (hby, .inl (cB, 256, .inl (fb))), (hdo, .inr (5, [.ref hra, .int (nI df), .int (nI dn)])), (hra, .inl (cR, 64, .inr (.inr (.inr (.inr ((rvA rv)))))))] : va_W) ++ pl) sz)) 0 0 (va_A (([(h0, .inr (2, [.ref hba, .ref hta, vp, .int a0])), (hta, .inr (1, [.ref hty, .int (nI k)])), (hty, .inl (cB, 256, .inl (f))), (hba, .inr (1, [.ref hby, .int (nI kb)])), (hby, .inl (cB, 256, .inl (fb))), (hdo, .inr (5, [.ref hra, .int (nI df), .int (nI dn)])), (hra, .inl (cR, 64, .inr (.inr (.inr (.inr ((rvA rv)))))))] : va_W) ++ pl) sz) := by
  refine Met.ofW (cc := prog_3_method_3_code) (maxL := 6) (ret := (some (.object "TextKeeper$Text"))) (by decide) rfl ?_
  intro p e s m args below meth c s₁ B hml hv
  obtain ⟨rfl, hsz, hP, hK, hD0, hN⟩ := hv
  have hx := B.exec
  have hb := B.bytes
  have hr := B.returns
  have hts := atoms_spec (ws := k_M_makeAgain) B.pre
  have hw0 : ∀ w ∈ w0, w.before _ s = true := fun w h => hts w (List.mem_cons_of_mem _ h)
  have hown : s.vm.findClass R_M = some m.cls := findClass_of_methodNamed B.named
  have hlocks := B.notSynchronized
  subst hsz
  have hD := hD0.self (sz := s.heap.size)
  generalize hAe : va_A (([(h0, .inr (2, [.ref hba, .ref hta, vp, .int a0])), (hta, .inr (1, [.ref hty, .int (nI k)])), (hty, .inl (cB, 256, .inl (f))), (hba, .inr (1, [.ref hby, .int (nI kb)])), (hby, .inl (cB, 256, .inl (fb))), (hdo, .inr (5, [.ref hra, .int (nI df), .int (nI dn)])), (hra, .inl (cR, 64, .inr (.inr (.inr (.inr ((rvA rv)))))))] : va_W) ++ pl) s.heap.size = A at hD ⊢
  have hA : ∀ q : Nat, s.heap.size ≤ q → A q := fun q h => by rw [← hAe]; exact Or.inr h
  have hS : va_S A s.heap s.heap [] := va_S.rf
  have hP : va_P (dC, dI) vwCl (([(h0, .inr (2, [.ref hba, .ref hta, vp, .int a0])), (hta, .inr (1, [.ref hty, .int (nI k)])), (hty, .inl (cB, 256, .inl (f))), (hba, .inr (1, [.ref hby, .int (nI kb)])), (hby, .inl (cB, 256, .inl (fb))), (hdo, .inr (5, [.ref hra, .int (nI df), .int (nI dn)])), (hra, .inl (cR, 64, .inr (.inr (.inr (.inr ((rvA rv)))))))] : va_W) ++ pl) s.heap := hP
  have hl := lv_entry ([.ref h0, .ref hdo, .int (nI r9)]) (n := 6) (Nat.le_of_ble_eq_true rfl)
  rw [lg_entry_eq]
  generalize (lg_sl ([.ref h0, .ref hdo, .int (nI r9)]) ++ List.replicate (6 - (lg_sl ([.ref h0, .ref hdo, .int (nI r9)])).length) Slot.unset).toArray = ls at hl ⊢
  have hl : lv_has ls 6 [(0, .ref h0), (1, .ref hdo), (2, .int (nI r9))] := hl
  refine lv_aload_n hx hb d_M_makeAgain_0 rfl (lv_at hl 0 rfl) ?_
  refine va_get (D := (dC, dI)) (ci := 2) (v := .ref hta) (C := R_M) (T := F_M) (N := 4) hx hb hw0 in_M hown hK hP 0 rfl rfl 1 (by decide) (hw0 (.fieldLink R_M 18 "TextKeeper$Maker" "text" "LTextKeeper$Text;") wm_156) (fun _ h9 => h9) rfl d_M_makeAgain_1 ?_
  refine lv_iconst (v := 0) hx hb d_M_makeAgain_4 (by decide) ?_
  have hPc := hP.sub (ws' := [(hta, .inr (1, [.ref hty, .int (nI k)])), (hty, .inl (cB, 256, .inl ((f))))]) [1, 2] rfl
  have hKc := hK.sub (tys' := [(cB, .byte)]) [0] rfl
  have hDc := hD.sub (ws' := [(hta, .inr (1, [.ref hty, .int (nI k)])), (hty, .inl (cB, 256, .inl ((f))))]) [1, 2] (by decide) rfl
  have hFc := va_free (wc := [(hta, .inr (1, [.ref hty, .int (nI k)])), (hty, .inl (cB, 256, .inl ((f))))]) hD hS hA [1, 2] rfl
  refine va_calli (va_runV (As := [.int 0]) (rest := []) ⟨hx, hb, hml, hown, hw0⟩ (g_shorten_T l dC dI s.heap.size hta hty cB k (f) T 0 (by first | assumption | decide | omega) (by first | assumption | decide | omega) (by first | assumption | decide | omega)) (cwV 1 hw0 (gd_Vm wm_317 wm_318 wm_319 wm_151 wm_320) rfl rfl rfl (by decide +kernel) ⟨by decide +kernel, by decide +kernel⟩) (prV_E hPc hKc hDc hN (va_recv hKc hPc (ci := 1) (q0 := 0) rfl rfl)) rfl rfl hl.1 rfl (lv_room (Nat.le_of_ble_eq_true rfl)) d_M_makeAgain_5 ⟨by decide +kernel, by decide +kernel⟩) hS (fun q _ h => hFc q h) hFc (fun r_1 u t H1 locs ht hvm hw hB hz1 hk1 hS => ?_)
  obtain ⟨hu_2, hP1, hK1, hD1⟩ := hB
  rw [ht] at hP1
  have hK1 := va_K.moved hvm.symm hK1
  try dsimp only at hw
  obtain ⟨hP, hD⟩ := va_joinQ (wr := [(h0, .inr (2, [.ref hba, .ref hta, vp, .int a0])), (hba, .inr (1, [.ref hby, .int (nI kb)])), (hby, .inl (cB, 256, .inl (fb))), (hdo, .inr (5, [.ref hra, .int (nI df), .int (nI dn)])), (hra, .inl (cR, 64, .inr (.inr (.inr (.inr ((rvA rv)))))))]) (w1 := [(hta, .inr (1, [.ref hty, .int (nI 0)])), (hty, .inl (cB, 256, .inl ((f))))]) hP hD [1, 2] [0, 3, 4, 5, 6] rfl rfl (by decide) (by decide) hk1 hFc hP1 hD1
  generalize H1 = H at hP hS ⊢
  replace hP : va_P (dC, dI) vwCl (([(h0, .inr (2, [.ref hba, .ref hta, vp, .int a0])), (hba, .inr (1, [.ref hby, .int (nI kb)])), (hby, .inl (cB, 256, .inl (fb))), (hdo, .inr (5, [.ref hra, .int (nI df), .int (nI dn)])), (hra, .inl (cR, 64, .inr (.inr (.inr (.inr ((rvA rv))))))), (hta, .inr (1, [.ref hty, .int (nI 0)])), (hty, .inl (cB, 256, .inl ((f))))] : va_W) ++ pl) H := hP
  replace hD : va_D A (([(h0, .inr (2, [.ref hba, .ref hta, vp, .int a0])), (hba, .inr (1, [.ref hby, .int (nI kb)])), (hby, .inl (cB, 256, .inl (fb))), (hdo, .inr (5, [.ref hra, .int (nI df), .int (nI dn)])), (hra, .inl (cR, 64, .inr (.inr (.inr (.inr ((rvA rv))))))), (hta, .inr (1, [.ref hty, .int (nI 0)])), (hty, .inl (cB, 256, .inl ((f))))] : va_W) ++ pl) := hD
  replace hK : va_K (dC, dI) vwCl [(cB, .byte), (cR, .object R_V)] s := hK
  obtain rfl : r_1 = 1 := hw
  refine lv_pop hx hb d_M_makeAgain_8 rfl ?_
  have h0t : tx [] 0 (f) := (by have h9 := hu_2; rw [List.take_zero] at h9; exact h9)
  rcases hq9 : rv 0 with _ | ⟨a9, pa9, np9, fp9, S9, au9, sm9⟩
  · have hkN : atN dn (rvA rv) 0 = none := (show atN dn (rvA rv) (nI 0) = none from by rw [atN_nI (by omega) (by omega)]; exact rvA_n hq9)
    have hbad : agn (rvP rv) r9 = none := agJ_none (j := 0) (stp6_n (rvP_n hq9)) 6 (by omega)
    refine lv_aload_n hx hb d_M_makeAgain_9 rfl (lv_at hl 0 rfl) ?_
    refine lv_aload_n hx hb d_M_makeAgain_10 rfl (lv_at hl 1 rfl) ?_
    refine lv_iconst (v := 0) hx hb d_M_makeAgain_11 (by decide) ?_
    have hPc := hP.sub (ws' := [(h0, .inr (2, [.ref hba, .ref hta, vp, .int a0])), (hdo, .inr (5, [.ref hra, .int (nI df), .int (nI dn)])), (hra, .inl (cR, 64, .inr (.inr (.inr (.inr (((rvA rv))))))))]) [0, 3, 4] rfl
    have hKc := hK.sub (tys' := [(cR, .object R_V)]) [1] rfl
    refine ps_i (va_runV (As := [.ref hdo, .int 0]) (rest := []) ⟨hx, hb, hml, hown, hw0⟩ (g_makeNext_N l dC dI h0 (.ref hba) (.ref hta) vp a0 hdo hra cR df dn ((rvA rv)) 0 (by first | assumption | decide | omega) (by first | assumption | decide | omega)) (cwV 2 hw0 (gd_Vm wm_321 wm_322 wm_323 wm_169 wm_324) rfl rfl rfl (by decide +kernel) ⟨by decide +kernel, by decide +kernel⟩) (prV_R hPc hKc hN (va_recv hKc hPc (ci := 2) (q0 := 0) rfl rfl)) rfl rfl hl.1 rfl (lv_room (Nat.le_of_ble_eq_true rfl)) d_M_makeAgain_12 ⟨by decide +kernel, by decide +kernel⟩) (fun r_3 hr_3 => ?_)
    obtain rfl : r_3 = 0 := hr_3
    · have hz9 := hbad
      refine lv_istore_n (lv' := [(3, .int 0), (0, .ref h0), (1, .ref hdo), (2, .int (nI r9))]) hx hb d_M_makeAgain_15 rfl hl (by decide) rfl (fun ls hl => ?_)
      refine lv_iconst (v := 0) hx hb d_M_makeAgain_16 (by decide) ?_
      refine lv_istore (lv' := [(4, .int 0), (3, .int 0), (0, .ref h0), (1, .ref hdo), (2, .int (nI r9))]) hx hb d_M_makeAgain_17 hl (by decide) rfl (fun ls hl => ?_)
      refine lv_bipush (v := 32) hx hb d_M_makeAgain_19 (by decide +kernel) ?_
      refine lv_istore (lv' := [(5, .int 32), (4, .int 0), (3, .int 0), (0, .ref h0), (1, .ref hdo), (2, .int (nI r9))]) hx hb d_M_makeAgain_21 hl (by decide) rfl (fun ls hl => ?_)
      refine lv_iload hx hb d_M_makeAgain_23 (lv_at hl 0 rfl) ?_
      refine lv_if_le (tgt := 63) hx hb d_M_makeAgain_25 (by decide) (fun h9 => absurd h9 (by decide +kernel)) (fun _ => ?_)
      refine lv_iload_n hx hb d_M_makeAgain_28 rfl (lv_at hl 2 rfl) ?_
      refine lv_if_eq (tgt := 63) hx hb d_M_makeAgain_29 (by decide) (fun _ => ?_) (fun h9 => absurd h9 (by decide +kernel))
      refine lv_iload_n hx hb d_M_makeAgain_63 rfl (lv_at hl 2 rfl) ?_
      refine lv_if_eq (tgt := 74) hx hb d_M_makeAgain_64 (by decide) (fun _ => ?_) (fun h9 => absurd h9 (by decide +kernel))
      refine lv_null hx hb d_M_makeAgain_74 ?_
      have hP9 := hP.part (cx := [(h0, .inr (2, [.ref hba, .ref hta, vp, .int a0])), (hta, .inr (1, [.ref hty, .int (nI 0)])), (hty, .inl (cB, 256, .inl ((f)))), (hba, .inr (1, [.ref hby, .int (nI kb)])), (hby, .inl (cB, 256, .inl (fb))), (hdo, .inr (5, [.ref hra, .int (nI df), .int (nI dn)])), (hra, .inl (cR, 64, .inr (.inr (.inr (.inr ((rvA rv)))))))]) [0, 5, 6, 1, 2, 3, 4] rfl
      have hD9 := hD.part (cx := [(h0, .inr (2, [.ref hba, .ref hta, vp, .int a0])), (hta, .inr (1, [.ref hty, .int (nI 0)])), (hty, .inl (cB, 256, .inl ((f)))), (hba, .inr (1, [.ref hby, .int (nI kb)])), (hby, .inl (cB, 256, .inl (fb))), (hdo, .inr (5, [.ref hra, .int (nI df), .int (nI dn)])), (hra, .inl (cR, 64, .inr (.inr (.inr (.inr ((rvA rv)))))))]) [0, 5, 6, 1, 2, 3, 4] (by decide) rfl
      have hK9 := hK.sub (tys' := [(cB, .byte), (cR, .object R_V)]) [0, 1] rfl
      exact W.aret (v := .null) hx hb hr (Or.inl ⟨_, rfl⟩) (Or.inl rfl) (fun t ht hW => ⟨⟨none, (), rfl, rfl, hta, hty, hba, hby, 0, (f), kb, fb, vp, a0, Bs, ([]), ⟨⟨h0t, (by omega)⟩, ⟨htb, hkb⟩⟩, by rw [ht]; exact hP9, va_K.moved hW.alike hK9, hD9⟩, hS.F ht⟩) hS.2.2 d_M_makeAgain_75
  · obtain ⟨pl9, hp9⟩ := hpl _ _ (by omega) hq9
    have hP := hP.perm (pl_take hp9)
    have hD := hD.perm (pl_take hp9)
    replace hP : va_P (dC, dI) vwCl (([(h0, .inr (2, [.ref hba, .ref hta, vp, .int a0])), (hba, .inr (1, [.ref hby, .int (nI kb)])), (hby, .inl (cB, 256, .inl (fb))), (hdo, .inr (5, [.ref hra, .int (nI df), .int (nI dn)])), (hra, .inl (cR, 64, .inr (.inr (.inr (.inr ((rvA rv))))))), (hta, .inr (1, [.ref hty, .int (nI 0)])), (hty, .inl (cB, 256, .inl ((f)))), (a9, .inr (6, [.ref pa9, .int au9, .int sm9])), (pa9, .inl (cB, np9, .inl (fp9)))] : va_W) ++ pl9) H := hP
    replace hD : va_D A (([(h0, .inr (2, [.ref hba, .ref hta, vp, .int a0])), (hba, .inr (1, [.ref hby, .int (nI kb)])), (hby, .inl (cB, 256, .inl (fb))), (hdo, .inr (5, [.ref hra, .int (nI df), .int (nI dn)])), (hra, .inl (cR, 64, .inr (.inr (.inr (.inr ((rvA rv))))))), (hta, .inr (1, [.ref hty, .int (nI 0)])), (hty, .inl (cB, 256, .inl ((f)))), (a9, .inr (6, [.ref pa9, .int au9, .int sm9])), (pa9, .inl (cB, np9, .inl (fp9)))] : va_W) ++ pl9) := hD
    have ho9 := hok _ _ hq9
    have hs9 : tx S9 np9 fp9 := ho9.1
    have hnp : np9 ≤ 1024 := ho9.2
    have hkS : atN dn (rvA rv) 0 = some a9 := (show atN dn (rvA rv) (nI 0) = some a9 from by rw [atN_nI (by omega) (by omega)]; exact rvA_s hq9)
    refine lv_aload_n hx hb d_M_makeAgain_9 rfl (lv_at hl 0 rfl) ?_
    refine lv_aload_n hx hb d_M_makeAgain_10 rfl (lv_at hl 1 rfl) ?_
    refine lv_iconst (v := 0) hx hb d_M_makeAgain_11 (by decide) ?_
    have hPc := hP.sub (ws' := [(h0, .inr (2, [.ref hba, .ref hta, vp, .int a0])), (hta, .inr (1, [.ref hty, .int (nI 0)])), (hty, .inl (cB, 256, .inl (((f))))), (hba, .inr (1, [.ref hby, .int (nI kb)])), (hby, .inl (cB, 256, .inl ((fb)))), (hdo, .inr (5, [.ref hra, .int (nI df), .int (nI dn)])), (hra, .inl (cR, 64, .inr (.inr (.inr (.inr (((rvA rv)))))))), (a9, .inr (6, [.ref pa9, .int au9, .int sm9])), (pa9, .inl (cB, np9, .inl ((fp9))))]) [0, 5, 6, 1, 2, 3, 4, 7, 8] rfl
    have hKc := hK.sub (tys' := [(cB, .byte), (cR, .object R_V)]) [0, 1] rfl
    have hDc := hD.sub (ws' := [(h0, .inr (2, [.ref hba, .ref hta, vp, .int a0])), (hta, .inr (1, [.ref hty, .int (nI 0)])), (hty, .inl (cB, 256, .inl (((f))))), (hba, .inr (1, [.ref hby, .int (nI kb)])), (hby, .inl (cB, 256, .inl ((fb)))), (hdo, .inr (5, [.ref hra, .int (nI df), .int (nI dn)])), (hra, .inl (cR, 64, .inr (.inr (.inr (.inr (((rvA rv)))))))), (a9, .inr (6, [.ref pa9, .int au9, .int sm9])), (pa9, .inl (cB, np9, .inl ((fp9))))]) [0, 5, 6, 1, 2, 3, 4, 7, 8] (by decide) rfl
    have hFc := va_free (wc := [(h0, .inr (2, [.ref hba, .ref hta, vp, .int a0])), (hta, .inr (1, [.ref hty, .int (nI 0)])), (hty, .inl (cB, 256, .inl (((f))))), (hba, .inr (1, [.ref hby, .int (nI kb)])), (hby, .inl (cB, 256, .inl ((fb)))), (hdo, .inr (5, [.ref hra, .int (nI df), .int (nI dn)])), (hra, .inl (cR, 64, .inr (.inr (.inr (.inr (((rvA rv)))))))), (a9, .inr (6, [.ref pa9, .int au9, .int sm9])), (pa9, .inl (cB, np9, .inl ((fp9))))]) hD hS hA [0, 5, 6, 1, 2, 3, 4, 7, 8] rfl
    refine va_calli (va_runV (As := [.ref hdo, .int 0]) (rest := []) ⟨hx, hb, hml, hown, hw0⟩ (g_makeNext_S l dC dI H.size h0 hta hty hba hby cB 0 ((f)) kb (fb) vp a0 ([]) Bs hdo hra cR df dn ((rvA rv)) a9 pa9 np9 (fp9) au9 sm9 S9 0 (by first | assumption | decide | omega) (by first | assumption | decide | omega) (by first | assumption | decide | omega) (by first | assumption | decide | omega) (by first | assumption | decide | omega) (by first | assumption | decide | omega) (by first | assumption | decide | omega) (by first | assumption | decide | omega)) (cwV 2 hw0 (gd_Vm wm_321 wm_322 wm_323 wm_169 wm_324) rfl rfl rfl (by decide +kernel) ⟨by decide +kernel, by decide +kernel⟩) (prV_E hPc hKc hDc hN (va_recv hKc hPc (ci := 2) (q0 := 0) rfl rfl)) rfl rfl hl.1 rfl (lv_room (Nat.le_of_ble_eq_true rfl)) d_M_makeAgain_12 ⟨by decide +kernel, by decide +kernel⟩) hS (fun q _ h => hFc q h) hFc (fun r_4 u t H1 locs ht hvm hw hB hz1 hk1 hS => ?_)
    obtain ⟨k2_5, f2_6, T2_7, a2_8, ⟨hu_9_0, hu_9_1⟩, hP1, hK1, hD1⟩ := hB
    rw [ht] at hP1
    have hK1 := va_K.moved hvm.symm hK1
    try dsimp only at hw
    obtain ⟨hP, hD⟩ := va_joinQ (wr := []) (w1 := [(h0, .inr (2, [.ref hta, .ref hba, .ref pa9, .int (nI a2_8)])), (hba, .inr (1, [.ref hby, .int (nI k2_5)])), (hby, .inl (cB, 256, .inl (f2_6))), (hta, .inr (1, [.ref hty, .int (nI 0)])), (hty, .inl (cB, 256, .inl (((f))))), (hdo, .inr (5, [.ref hra, .int (nI df), .int (nI dn)])), (hra, .inl (cR, 64, .inr (.inr (.inr (.inr (((rvA rv)))))))), (a9, .inr (6, [.ref pa9, .int au9, .int sm9])), (pa9, .inl (cB, np9, .inl ((fp9))))]) hP hD [0, 5, 6, 1, 2, 3, 4, 7, 8] [] rfl rfl (by decide) (by decide) hk1 hFc hP1 hD1
    generalize H1 = H at hP hS ⊢
    replace hP : va_P (dC, dI) vwCl (([(h0, .inr (2, [.ref hta, .ref hba, .ref pa9, .int (nI a2_8)])), (hba, .inr (1, [.ref hby, .int (nI k2_5)])), (hby, .inl (cB, 256, .inl (f2_6))), (hta, .inr (1, [.ref hty, .int (nI 0)])), (hty, .inl (cB, 256, .inl (((f))))), (hdo, .inr (5, [.ref hra, .int (nI df), .int (nI dn)])), (hra, .inl (cR, 64, .inr (.inr (.inr (.inr (((rvA rv)))))))), (a9, .inr (6, [.ref pa9, .int au9, .int sm9])), (pa9, .inl (cB, np9, .inl ((fp9))))] : va_W) ++ pl9) H := hP
    replace hD : va_D A (([(h0, .inr (2, [.ref hta, .ref hba, .ref pa9, .int (nI a2_8)])), (hba, .inr (1, [.ref hby, .int (nI k2_5)])), (hby, .inl (cB, 256, .inl (f2_6))), (hta, .inr (1, [.ref hty, .int (nI 0)])), (hty, .inl (cB, 256, .inl (((f))))), (hdo, .inr (5, [.ref hra, .int (nI df), .int (nI dn)])), (hra, .inl (cR, 64, .inr (.inr (.inr (.inr (((rvA rv)))))))), (a9, .inr (6, [.ref pa9, .int au9, .int sm9])), (pa9, .inl (cB, np9, .inl ((fp9))))] : va_W) ++ pl9) := hD
    replace hK : va_K (dC, dI) vwCl [(cB, .byte), (cR, .object R_V)] s := hK
    have hw_10 := hw
    rcases hm9 : mak S9 [] with _ | Y9
    · rw [hm9] at hw_10; obtain rfl : r_4 = 0 := hw_10
      have hbad : agn (rvP rv) r9 = none := agJ_none (j := 0) (by show stp6 _ (some []) 0 = none; rw [stp6_s (rvP_s hq9)]; exact hm9) 6 (by omega)
      replace hP := (hP.part (cx := [(h0, .inr (2, [.ref hta, .ref hba, .ref pa9, .int (nI a2_8)])), (hba, .inr (1, [.ref hby, .int (nI k2_5)])), (hby, .inl (cB, 256, .inl (f2_6))), (hta, .inr (1, [.ref hty, .int (nI 0)])), (hty, .inl (cB, 256, .inl (((f))))), (hdo, .inr (5, [.ref hra, .int (nI df), .int (nI dn)])), (hra, .inl (cR, 64, .inr (.inr (.inr (.inr (((rvA rv)))))))), (a9, .inr (6, [.ref pa9, .int au9, .int sm9])), (pa9, .inl (cB, np9, .inl ((fp9))))]) [0, 1, 2, 3, 4, 5, 6, 7, 8] rfl).perm (pl_take (X := [(h0, .inr (2, [.ref hta, .ref hba, .ref pa9, .int (nI a2_8)])), (hba, .inr (1, [.ref hby, .int (nI k2_5)])), (hby, .inl (cB, 256, .inl (f2_6))), (hta, .inr (1, [.ref hty, .int (nI 0)])), (hty, .inl (cB, 256, .inl (((f))))), (hdo, .inr (5, [.ref hra, .int (nI df), .int (nI dn)])), (hra, .inl (cR, 64, .inr (.inr (.inr (.inr (((rvA rv))))))))]) hp9).symm
      replace hD := (hD.part (cx := [(h0, .inr (2, [.ref hta, .ref hba, .ref pa9, .int (nI a2_8)])), (hba, .inr (1, [.ref hby, .int (nI k2_5)])), (hby, .inl (cB, 256, .inl (f2_6))), (hta, .inr (1, [.ref hty, .int (nI 0)])), (hty, .inl (cB, 256, .inl (((f))))), (hdo, .inr (5, [.ref hra, .int (nI df), .int (nI dn)])), (hra, .inl (cR, 64, .inr (.inr (.inr (.inr (((rvA rv)))))))), (a9, .inr (6, [.ref pa9, .int au9, .int sm9])), (pa9, .inl (cB, np9, .inl ((fp9))))]) [0, 1, 2, 3, 4, 5, 6, 7, 8] (by decide) rfl).perm (pl_take (X := [(h0, .inr (2, [.ref hta, .ref hba, .ref pa9, .int (nI a2_8)])), (hba, .inr (1, [.ref hby, .int (nI k2_5)])), (hby, .inl (cB, 256, .inl (f2_6))), (hta, .inr (1, [.ref hty, .int (nI 0)])), (hty, .inl (cB, 256, .inl (((f))))), (hdo, .inr (5, [.ref hra, .int (nI df), .int (nI dn)])), (hra, .inl (cR, 64, .inr (.inr (.inr (.inr (((rvA rv))))))))]) hp9).symm
      refine lv_istore_n (lv' := [(3, .int 0), (0, .ref h0), (1, .ref hdo), (2, .int (nI r9))]) hx hb d_M_makeAgain_15 rfl hl (by decide) rfl (fun ls hl => ?_)
      refine lv_iconst (v := 0) hx hb d_M_makeAgain_16 (by decide) ?_
      refine lv_istore (lv' := [(4, .int 0), (3, .int 0), (0, .ref h0), (1, .ref hdo), (2, .int (nI r9))]) hx hb d_M_makeAgain_17 hl (by decide) rfl (fun ls hl => ?_)
      refine lv_bipush (v := 32) hx hb d_M_makeAgain_19 (by decide +kernel) ?_
      refine lv_istore (lv' := [(5, .int 32), (4, .int 0), (3, .int 0), (0, .ref h0), (1, .ref hdo), (2, .int (nI r9))]) hx hb d_M_makeAgain_21 hl (by decide) rfl (fun ls hl => ?_)
      refine lv_iload hx hb d_M_makeAgain_23 (lv_at hl 0 rfl) ?_
      refine lv_if_le (tgt := 63) hx hb d_M_makeAgain_25 (by decide) (fun h9 => absurd h9 (by decide +kernel)) (fun _ => ?_)
      refine lv_iload_n hx hb d_M_makeAgain_28 rfl (lv_at hl 2 rfl) ?_
      refine lv_if_eq (tgt := 63) hx hb d_M_makeAgain_29 (by decide) (fun _ => ?_) (fun h9 => absurd h9 (by decide +kernel))
      refine lv_iload_n hx hb d_M_makeAgain_63 rfl (lv_at hl 2 rfl) ?_
      refine lv_if_eq (tgt := 74) hx hb d_M_makeAgain_64 (by decide) (fun _ => ?_) (fun h9 => absurd h9 (by decide +kernel))
      refine lv_null hx hb d_M_makeAgain_74 ?_
      have hP9 := hP.part (cx := [(h0, .inr (2, [.ref hta, .ref hba, (.ref pa9), .int (nI a2_8)])), (hba, .inr (1, [.ref hby, .int (nI k2_5)])), (hby, .inl (cB, 256, .inl (f2_6))), (hta, .inr (1, [.ref hty, .int (nI 0)])), (hty, .inl (cB, 256, .inl (((f))))), (hdo, .inr (5, [.ref hra, .int (nI df), .int (nI dn)])), (hra, .inl (cR, 64, .inr (.inr (.inr (.inr ((rvA rv)))))))]) [0, 1, 2, 3, 4, 5, 6] rfl
      have hD9 := hD.part (cx := [(h0, .inr (2, [.ref hta, .ref hba, (.ref pa9), .int (nI a2_8)])), (hba, .inr (1, [.ref hby, .int (nI k2_5)])), (hby, .inl (cB, 256, .inl (f2_6))), (hta, .inr (1, [.ref hty, .int (nI 0)])), (hty, .inl (cB, 256, .inl (((f))))), (hdo, .inr (5, [.ref hra, .int (nI df), .int (nI dn)])), (hra, .inl (cR, 64, .inr (.inr (.inr (.inr ((rvA rv)))))))]) [0, 1, 2, 3, 4, 5, 6] (by decide) rfl
      have hK9 := hK.sub (tys' := [(cB, .byte), (cR, .object R_V)]) [0, 1] rfl
      exact W.aret (v := .null) hx hb hr (Or.inl ⟨_, rfl⟩) (Or.inl rfl) (fun t ht hW => ⟨⟨none, (), rfl, rfl, hba, hby, hta, hty, k2_5, f2_6, 0, ((f)), (.ref pa9), (nI a2_8), ([]), T2_7, ⟨⟨hu_9_0.1, hu_9_0.2⟩, ⟨h0t, (by omega)⟩⟩, by rw [ht]; exact hP9, va_K.moved hW.alike hK9, hD9⟩, hS.F ht⟩) hS.2.2 d_M_makeAgain_75
    · rw [hm9] at hw_10; obtain rfl : r_4 = 1 := hw_10; obtain rfl := hu_9_1 Y9 hm9
      replace hP := (hP.part (cx := [(h0, .inr (2, [.ref hta, .ref hba, .ref pa9, .int (nI a2_8)])), (hba, .inr (1, [.ref hby, .int (nI k2_5)])), (hby, .inl (cB, 256, .inl (f2_6))), (hta, .inr (1, [.ref hty, .int (nI 0)])), (hty, .inl (cB, 256, .inl (((f))))), (hdo, .inr (5, [.ref hra, .int (nI df), .int (nI dn)])), (hra, .inl (cR, 64, .inr (.inr (.inr (.inr (((rvA rv)))))))), (a9, .inr (6, [.ref pa9, .int au9, .int sm9])), (pa9, .inl (cB, np9, .inl ((fp9))))]) [0, 1, 2, 3, 4, 5, 6, 7, 8] rfl).perm (pl_take (X := [(h0, .inr (2, [.ref hta, .ref hba, .ref pa9, .int (nI a2_8)])), (hba, .inr (1, [.ref hby, .int (nI k2_5)])), (hby, .inl (cB, 256, .inl (f2_6))), (hta, .inr (1, [.ref hty, .int (nI 0)])), (hty, .inl (cB, 256, .inl (((f))))), (hdo, .inr (5, [.ref hra, .int (nI df), .int (nI dn)])), (hra, .inl (cR, 64, .inr (.inr (.inr (.inr (((rvA rv))))))))]) hp9).symm
      replace hD := (hD.part (cx := [(h0, .inr (2, [.ref hta, .ref hba, .ref pa9, .int (nI a2_8)])), (hba, .inr (1, [.ref hby, .int (nI k2_5)])), (hby, .inl (cB, 256, .inl (f2_6))), (hta, .inr (1, [.ref hty, .int (nI 0)])), (hty, .inl (cB, 256, .inl (((f))))), (hdo, .inr (5, [.ref hra, .int (nI df), .int (nI dn)])), (hra, .inl (cR, 64, .inr (.inr (.inr (.inr (((rvA rv)))))))), (a9, .inr (6, [.ref pa9, .int au9, .int sm9])), (pa9, .inl (cB, np9, .inl ((fp9))))]) [0, 1, 2, 3, 4, 5, 6, 7, 8] (by decide) rfl).perm (pl_take (X := [(h0, .inr (2, [.ref hta, .ref hba, .ref pa9, .int (nI a2_8)])), (hba, .inr (1, [.ref hby, .int (nI k2_5)])), (hby, .inl (cB, 256, .inl (f2_6))), (hta, .inr (1, [.ref hty, .int (nI 0)])), (hty, .inl (cB, 256, .inl (((f))))), (hdo, .inr (5, [.ref hra, .int (nI df), .int (nI dn)])), (hra, .inl (cR, 64, .inr (.inr (.inr (.inr (((rvA rv))))))))]) hp9).symm
      refine lv_istore_n (lv' := [(3, .int 1), (0, .ref h0), (1, .ref hdo), (2, .int (nI r9))]) hx hb d_M_makeAgain_15 rfl hl (by decide) rfl (fun ls hl => ?_)
      refine lv_iconst (v := 0) hx hb d_M_makeAgain_16 (by decide) ?_
      refine lv_istore (lv' := [(4, .int 0), (3, .int 1), (0, .ref h0), (1, .ref hdo), (2, .int (nI r9))]) hx hb d_M_makeAgain_17 hl (by decide) rfl (fun ls hl => ?_)
      refine lv_bipush (v := 32) hx hb d_M_makeAgain_19 (by decide +kernel) ?_
      refine lv_istore (lv' := [(5, .int 32), (4, .int 0), (3, .int 1), (0, .ref h0), (1, .ref hdo), (2, .int (nI r9))]) hx hb d_M_makeAgain_21 hl (by decide) rfl (fun ls hl => ?_)
      refine lq_aga h0 hdo hra cR df dn cB rv pl r9 hdn hr9 hpl hok hx hb hml hown hw0 hN hK hA (fun hta8 hty8 hba8 hby8 k8 f8 kb8 fb8 vp8 a08 T8 Bs8 g0 g1 g2 g3 g4 H locs hP hD hS ls hl => ?_) (fun hta8 hty8 hba8 hby8 k8 f8 kb8 fb8 vp8 a08 T8 Bs8 g0 g1 g2 g3 g4 H locs hP hD hS ls hl => ?_) 7 0 (by omega) (by omega) hba hby hta hty k2_5 f2_6 0 ((f)) (.ref pa9) (nI a2_8) T2_7 ([]) hu_9_0.1 hu_9_0.2 h0t (by omega) (by show stp6 _ (some []) 0 = _; rw [stp6_s (rvP_s hq9)]; exact hm9) _ _ (hP.part (cx := [(h0, .inr (2, [.ref hta, .ref hba, .ref pa9, .int (nI a2_8)])), (hba, .inr (1, [.ref hby, .int (nI k2_5)])), (hby, .inl (cB, 256, .inl (f2_6))), (hta, .inr (1, [.ref hty, .int (nI 0)])), (hty, .inl (cB, 256, .inl (((f))))), (hdo, .inr (5, [.ref hra, .int (nI df), .int (nI dn)])), (hra, .inl (cR, 64, .inr (.inr (.inr (.inr (((rvA rv))))))))]) [0, 1, 2, 3, 4, 5, 6] rfl) (hD.part (cx := [(h0, .inr (2, [.ref hta, .ref hba, .ref pa9, .int (nI a2_8)])), (hba, .inr (1, [.ref hby, .int (nI k2_5)])), (hby, .inl (cB, 256, .inl (f2_6))), (hta, .inr (1, [.ref hty, .int (nI 0)])), (hty, .inl (cB, 256, .inl (((f))))), (hdo, .inr (5, [.ref hra, .int (nI df), .int (nI dn)])), (hra, .inl (cR, 64, .inr (.inr (.inr (.inr (((rvA rv))))))))]) [0, 1, 2, 3, 4, 5, 6] (by decide) rfl) hS ls (by rw [hi6_0 (by omega), show bt6 0 = 32 from rfl]; exact (lv_sub hl [0, 1, 2, 3, 4, 5] rfl))
      · exact absurd (g4.symm.trans hag) (fun q => by cases q)
      · have hT8 := g4
        refine lv_iload_n hx hb d_M_makeAgain_63 rfl (lv_at hl 0 rfl) ?_
        refine lv_if_eq (tgt := 74) hx hb d_M_makeAgain_64 (by decide) (fun _ => ?_) (fun h9 => absurd h9 (by decide +kernel))
        refine lv_null hx hb d_M_makeAgain_74 ?_
        have hP9 := hP.part (cx := [(h0, .inr (2, [.ref hba8, .ref hta8, vp8, .int a08])), (hta8, .inr (1, [.ref hty8, .int (nI k8)])), (hty8, .inl (cB, 256, .inl (f8))), (hba8, .inr (1, [.ref hby8, .int (nI kb8)])), (hby8, .inl (cB, 256, .inl (fb8))), (hdo, .inr (5, [.ref hra, .int (nI df), .int (nI dn)])), (hra, .inl (cR, 64, .inr (.inr (.inr (.inr ((rvA rv)))))))]) [0, 1, 2, 3, 4, 5, 6] rfl
        have hD9 := hD.part (cx := [(h0, .inr (2, [.ref hba8, .ref hta8, vp8, .int a08])), (hta8, .inr (1, [.ref hty8, .int (nI k8)])), (hty8, .inl (cB, 256, .inl (f8))), (hba8, .inr (1, [.ref hby8, .int (nI kb8)])), (hby8, .inl (cB, 256, .inl (fb8))), (hdo, .inr (5, [.ref hra, .int (nI df), .int (nI dn)])), (hra, .inl (cR, 64, .inr (.inr (.inr (.inr ((rvA rv)))))))]) [0, 1, 2, 3, 4, 5, 6] (by decide) rfl
        have hK9 := hK.sub (tys' := [(cB, .byte), (cR, .object R_V)]) [0, 1] rfl
        exact W.aret (v := .null) hx hb hr (Or.inl ⟨_, rfl⟩) (Or.inl rfl) (fun t ht hW => ⟨⟨none, (), rfl, rfl, hta8, hty8, hba8, hby8, k8, f8, kb8, fb8, vp8, a08, Bs8, T8, ⟨⟨g0, g1⟩, ⟨g2, g3⟩⟩, by rw [ht]; exact hP9, va_K.moved hW.alike hK9, hD9⟩, hS.F ht⟩) hS.2.2 d_M_makeAgain_75
set_option maxHeartbeats 4000000 in
set_option maxRecDepth 100000 in
theorem g_makeBase_S (l : Launch) (dC : Nat → ClassId) (dI : Nat → Nat → Nat) (sz : Nat) (h0 : Nat) (hta : Nat) (hty : Nat) (hba : Nat) (hby : Nat) (cB : ClassId) (k : Nat) (f : Nat → Int32) (kb : Nat) (fb : Nat → Int32) (vp : Value) (a0 : Int32) (T : List Int32) (Bs : List Int32) (hdo : Nat) (hra : Nat) (cR : ClassId) (df : Nat) (dn : Nat) (rv : Nat → Option Rc) (pl : va_W) (n9 : Nat) (Y : List Int32) (htt : tx T k f) (hk : k ≤ 256) (htb : tx Bs kb fb) (hkb : kb ≤ 256) (hdn : dn ≤ 64) (hn9 : n9 < 64) (hn8 : n9 ≤ dn) (hpl : plR cB rv pl) (hok : rvOk rv) (hbz : basR rv n9 = some Y) : Met l y_M_makeBase k_M_makeBase ({ frames := 5, cells := 0, slots := 0, locals := 119 } : Room) (va_Pc [.ref h0, .ref hdo, .int (nI n9)] (pc_E (dC, dI) (([(h0, .inr (2, [.ref hba, .ref hta, vp, .int a0])), (hta, .inr (1, [.ref hty, .int (nI k)])), (hty, .inl (cB, 256, .inl (f))), (hba, .inr (1, [.ref hby, .int (nI kb)])), (hby, .inl (cB, 256, .inl (fb))), (hdo, .inr (5, [.ref hra, .int (nI df), .int (nI dn)])), (hra, .inl (cR, 64, .inr (.inr (.inr (.inr ((rvA rv)))))))] : va_W) ++ pl) [(cB, .byte), (cR, .object R_V)] sz)) (va_Qr (fun (_ : Unit) => True) (fun (_ : Unit) ra t => ∃ (hty2 : Nat) (hba2 : Nat) (hby2 : Nat) (k2 : Nat) (f2 : Nat → Int32) (kb2 : Nat) (fb2 : Nat → Int32) (vp2 : Value) (a2 : Int32) (B2 : List Int32), ((tx Y k2 f2 ∧ k2 ≤ 256) ∧ (tx B2 kb2 fb2 ∧ kb2 ≤ 256)) ∧ at_E (dC, dI) (va_A (([(h0, .inr (2, [.ref hba, .ref hta, vp, .int a0])), (hta, .inr (1, [.ref hty, .int (nI k)])), (hty, .inl (cB, 256, .inl (f))), (hba, .inr (1, [.ref hby, .int (nI kb)])), (hby, .inl (cB, 256, .inl (fb))), (hdo, .inr (5, [.ref hra, .int (nI df), .int (nI dn)])), (hra, .inl (cR, 64, .inr (.inr (.inr (.inr ((rvA rv)))))))] : va_W) ++ pl) sz) (([(h0, .inr (2, [.ref hba2, .ref ra, vp2, .int a2])), (ra, .inr (1, [.ref hty2, .int (nI k2)])), (hty2, .inl (cB, 256, .inl (f2))), (hba2, .inr (1, [.ref hby2, .int (nI kb2)])), (hby2, .inl (cB, 256, .inl (fb2))), (hdo, .inr (5, [.ref hra, .int (nI df), .int (nI dn)])), (hra, .inl (cR, 64, .inr (.inr (.inr (.inr ((rvA rv)))))))] : va_W) ++ pl) [(cB, .byte), (cR, .object R_V)] t) (va_A (([(h0, .inr (2, [.ref hba, .ref hta, vp, .int a0])), (hta, .inr (1, [.ref hty, .int (nI k)])), (hty, .inl (cB, 256, .inl (f))), (hba, .inr (1, [.ref hby, .int (nI kb)])), (hby, .inl (cB, 256, .inl (fb))), (hdo, .inr (5, [.ref hra, .int (nI df), .int (nI dn)])), (hra, .inl (cR, 64, .inr (.inr (.inr (.inr ((rvA rv)))))))] : va_W) ++ pl) sz)) 0 0 (va_A (([(h0, .inr (2, [.ref hba, .ref hta, vp, .int a0])), (hta, .inr (1, [.ref hty, .int (nI k)])), (hty, .inl (cB, 256, .inl (f))), (hba, .inr (1, [.ref hby, .int (nI kb)])), (hby, .inl (cB, 256, .inl (fb))), (hdo, .inr (5, [.ref hra, .int (nI df), .int (nI dn)])), (hra, .inl (cR, 64, .inr (.inr (.inr (.inr ((rvA rv)))))))] : va_W) ++ pl) sz) := by
  refine Met.ofW (cc := prog_3_method_2_code) (maxL := 3) (ret := (some (.object "TextKeeper$Text"))) (by decide) rfl ?_
  intro p e s m args below meth c s₁ B hml hv
  obtain ⟨rfl, hsz, hP, hK, hD0, hN⟩ := hv
  have hx := B.exec
  have hb := B.bytes
  have hr := B.returns
  have hts := atoms_spec (ws := k_M_makeBase) B.pre
  have hw0 : ∀ w ∈ w0, w.before _ s = true := fun w h => hts w (List.mem_cons_of_mem _ h)
  have hown : s.vm.findClass R_M = some m.cls := findClass_of_methodNamed B.named
  have hlocks := B.notSynchronized
  subst hsz
  have hD := hD0.self (sz := s.heap.size)
  generalize hAe : va_A (([(h0, .inr (2, [.ref hba, .ref hta, vp, .int a0])), (hta, .inr (1, [.ref hty, .int (nI k)])), (hty, .inl (cB, 256, .inl (f))), (hba, .inr (1, [.ref hby, .int (nI kb)])), (hby, .inl (cB, 256, .inl (fb))), (hdo, .inr (5, [.ref hra, .int (nI df), .int (nI dn)])), (hra, .inl (cR, 64, .inr (.inr (.inr (.inr ((rvA rv)))))))] : va_W) ++ pl) s.heap.size = A at hD ⊢
  have hA : ∀ q : Nat, s.heap.size ≤ q → A q := fun q h => by rw [← hAe]; exact Or.inr h
  have hS : va_S A s.heap s.heap [] := va_S.rf
  have hP : va_P (dC, dI) vwCl (([(h0, .inr (2, [.ref hba, .ref hta, vp, .int a0])), (hta, .inr (1, [.ref hty, .int (nI k)])), (hty, .inl (cB, 256, .inl (f))), (hba, .inr (1, [.ref hby, .int (nI kb)])), (hby, .inl (cB, 256, .inl (fb))), (hdo, .inr (5, [.ref hra, .int (nI df), .int (nI dn)])), (hra, .inl (cR, 64, .inr (.inr (.inr (.inr ((rvA rv)))))))] : va_W) ++ pl) s.heap := hP
  have hl := lv_entry ([.ref h0, .ref hdo, .int (nI n9)]) (n := 3) (Nat.le_of_ble_eq_true rfl)
  rw [lg_entry_eq]
  generalize (lg_sl ([.ref h0, .ref hdo, .int (nI n9)]) ++ List.replicate (3 - (lg_sl ([.ref h0, .ref hdo, .int (nI n9)])).length) Slot.unset).toArray = ls at hl ⊢
  have hl : lv_has ls 3 [(0, .ref h0), (1, .ref hdo), (2, .int (nI n9))] := hl
  refine lv_iload_n hx hb d_M_makeBase_0 rfl (lv_at hl 2 rfl) ?_
  refine lv_if_ne (tgt := 18) hx hb d_M_makeBase_1 (by decide) (fun c_1 => ?_) (fun c_1 => ?_)
  · have hz0 : ¬ n9 = 0 := (fun z => c_1 (by rw [z]; rfl)); have hbs := bs_nI n9 (by omega); have hag : agn (rvP rv) (bs n9) = _ := (if_neg hz0).symm.trans hbz
    refine lv_aload_n hx hb d_M_makeBase_18 rfl (lv_at hl 0 rfl) ?_
    refine lv_aload_n hx hb d_M_makeBase_19 rfl (lv_at hl 1 rfl) ?_
    refine lv_iload_n hx hb d_M_makeBase_20 rfl (lv_at hl 2 rfl) ?_
    have hPc := hP.sub (ws' := []) [] rfl
    have hKc := hK.sub (tys' := []) [] rfl
    refine ps_i (va_runSN (As := [.int (nI n9)]) (rest := [.ref hdo, .ref h0]) ⟨hx, hb, hml, hown, hw0⟩ (g_baseOf l dC dI (nI n9)) ⟨va_cnB 1 hw0 (gd_Im wm_307) rfl rfl rfl (hN.1 (.methodLinkNest R_M 33 y_K_baseOf "TextKeeper") (List.mem_of_getElem? (i := 12) rfl)) (hw0 (.initialized R_K) wm_308) (by decide +kernel) ⟨by decide +kernel, by decide +kernel⟩, (hw0 (.static y_K_baseOf) wm_309), trivial⟩ (prS_R hPc hKc hN) rfl rfl hl.1 rfl (lv_room (Nat.le_of_ble_eq_true rfl)) d_M_makeBase_21 ⟨by decide +kernel, by decide +kernel⟩) (fun r_2 hr_2 => ?_)
    obtain rfl : r_2 = ((nI n9) &&& ((nI n9) - 1)) := hr_2
    refine W.eq (g2 := F0 m 24 ls [.int (nI (bs n9)), .ref hdo, .ref h0]) (by rw [hbs.1]) ?_
    · have hbd9 : bs n9 < dn := (by omega)
      have hPc := hP.part (cx := [(h0, .inr (2, [.ref hba, .ref hta, vp, .int a0])), (hta, .inr (1, [.ref hty, .int (nI k)])), (hty, .inl (cB, 256, .inl ((f)))), (hba, .inr (1, [.ref hby, .int (nI kb)])), (hby, .inl (cB, 256, .inl ((fb)))), (hdo, .inr (5, [.ref hra, .int (nI df), .int (nI dn)])), (hra, .inl (cR, 64, .inr (.inr (.inr (.inr ((rvA rv)))))))]) [0, 1, 2, 3, 4, 5, 6] rfl
      have hKc := hK.sub (tys' := [(cB, .byte), (cR, .object R_V)]) [0, 1] rfl
      have hDc := hD.part (cx := [(h0, .inr (2, [.ref hba, .ref hta, vp, .int a0])), (hta, .inr (1, [.ref hty, .int (nI k)])), (hty, .inl (cB, 256, .inl ((f)))), (hba, .inr (1, [.ref hby, .int (nI kb)])), (hby, .inl (cB, 256, .inl ((fb)))), (hdo, .inr (5, [.ref hra, .int (nI df), .int (nI dn)])), (hra, .inl (cR, 64, .inr (.inr (.inr (.inr ((rvA rv)))))))]) [0, 1, 2, 3, 4, 5, 6] (by decide) rfl
      have hFc := va_freeP (cx := [(h0, .inr (2, [.ref hba, .ref hta, vp, .int a0])), (hta, .inr (1, [.ref hty, .int (nI k)])), (hty, .inl (cB, 256, .inl ((f)))), (hba, .inr (1, [.ref hby, .int (nI kb)])), (hby, .inl (cB, 256, .inl ((fb)))), (hdo, .inr (5, [.ref hra, .int (nI df), .int (nI dn)])), (hra, .inl (cR, 64, .inr (.inr (.inr (.inr ((rvA rv)))))))]) hD hS hA [0, 1, 2, 3, 4, 5, 6] rfl
      refine va_callr (va_runV (As := [.ref hdo, .int (nI (bs n9))]) (rest := []) ⟨hx, hb, hml, hown, hw0⟩ (g_makeAgain_S l dC dI s.heap.size h0 hta hty hba hby cB k (f) kb (fb) vp a0 T Bs hdo hra cR df dn _ pl (bs n9) Y (by first | assumption | decide | omega) (by first | assumption | decide | omega) (by first | assumption | decide | omega) (by first | assumption | decide | omega) (by first | assumption | decide | omega) (by first | assumption | decide | omega) (by first | assumption | decide | omega) (by first | assumption | decide | omega) (by first | assumption | decide | omega)) (cwV 2 hw0 (gd_Vm wm_325 wm_326 wm_327 wm_169 wm_328) rfl rfl rfl (by decide +kernel) ⟨by decide +kernel, by decide +kernel⟩) (prV_E hPc hKc hDc hN (va_recv hKc hPc (ci := 2) (q0 := 0) rfl rfl)) rfl rfl hl.1 rfl (lv_room (Nat.le_of_ble_eq_true rfl)) d_M_makeBase_24 ⟨by decide +kernel, by decide +kernel⟩) hS (fun q _ h => hFc q h) hFc (fun u ra_3 t H1 locs ht hvm hw hB hz1 hk1 hS => ?_)
      obtain ⟨hty2_4, hba2_5, hby2_6, k2_7, f2_8, kb2_9, fb2_10, vp2_11, a2_12, B2_13, ⟨hu_14_0, hu_14_1⟩, hP1, hK1, hD1⟩ := hB
      rw [ht] at hP1
      have hK1 := va_K.moved hvm.symm hK1
      try dsimp only at hw
      obtain ⟨hP, hD⟩ := va_joinP (wr := []) (rx := [(h0, .inr (2, [.ref hba2_5, .ref ra_3, vp2_11, .int a2_12])), (ra_3, .inr (1, [.ref hty2_4, .int (nI k2_7)])), (hty2_4, .inl (cB, 256, .inl (f2_8))), (hba2_5, .inr (1, [.ref hby2_6, .int (nI kb2_9)])), (hby2_6, .inl (cB, 256, .inl (fb2_10))), (hdo, .inr (5, [.ref hra, .int (nI df), .int (nI dn)])), (hra, .inl (cR, 64, .inr (.inr (.inr (.inr ((rvA rv)))))))]) hP hD [0, 1, 2, 3, 4, 5, 6] [] rfl rfl (by decide) (by decide) hk1 hFc hP1 hD1
      generalize H1 = H at hP hS ⊢
      replace hP : va_P (dC, dI) vwCl (([(h0, .inr (2, [.ref hba2_5, .ref ra_3, vp2_11, .int a2_12])), (ra_3, .inr (1, [.ref hty2_4, .int (nI k2_7)])), (hty2_4, .inl (cB, 256, .inl (f2_8))), (hba2_5, .inr (1, [.ref hby2_6, .int (nI kb2_9)])), (hby2_6, .inl (cB, 256, .inl (fb2_10))), (hdo, .inr (5, [.ref hra, .int (nI df), .int (nI dn)])), (hra, .inl (cR, 64, .inr (.inr (.inr (.inr ((rvA rv)))))))] : va_W) ++ pl) H := hP
      replace hD : va_D A (([(h0, .inr (2, [.ref hba2_5, .ref ra_3, vp2_11, .int a2_12])), (ra_3, .inr (1, [.ref hty2_4, .int (nI k2_7)])), (hty2_4, .inl (cB, 256, .inl (f2_8))), (hba2_5, .inr (1, [.ref hby2_6, .int (nI kb2_9)])), (hby2_6, .inl (cB, 256, .inl (fb2_10))), (hdo, .inr (5, [.ref hra, .int (nI df), .int (nI dn)])), (hra, .inl (cR, 64, .inr (.inr (.inr (.inr ((rvA rv)))))))] : va_W) ++ pl) := hD
      replace hK : va_K (dC, dI) vwCl [(cB, .byte), (cR, .object R_V)] s := hK
      have hP9 := hP.part (cx := [(h0, .inr (2, [.ref hba2_5, .ref ra_3, vp2_11, .int a2_12])), (ra_3, .inr (1, [.ref hty2_4, .int (nI k2_7)])), (hty2_4, .inl (cB, 256, .inl (f2_8))), (hba2_5, .inr (1, [.ref hby2_6, .int (nI kb2_9)])), (hby2_6, .inl (cB, 256, .inl (fb2_10))), (hdo, .inr (5, [.ref hra, .int (nI df), .int (nI dn)])), (hra, .inl (cR, 64, .inr (.inr (.inr (.inr ((rvA rv)))))))]) [0, 1, 2, 3, 4, 5, 6] rfl
      have hD9 := hD.part (cx := [(h0, .inr (2, [.ref hba2_5, .ref ra_3, vp2_11, .int a2_12])), (ra_3, .inr (1, [.ref hty2_4, .int (nI k2_7)])), (hty2_4, .inl (cB, 256, .inl (f2_8))), (hba2_5, .inr (1, [.ref hby2_6, .int (nI kb2_9)])), (hby2_6, .inl (cB, 256, .inl (fb2_10))), (hdo, .inr (5, [.ref hra, .int (nI df), .int (nI dn)])), (hra, .inl (cR, 64, .inr (.inr (.inr (.inr ((rvA rv)))))))]) [0, 1, 2, 3, 4, 5, 6] (by decide) rfl
      have hK9 := hK.sub (tys' := [(cB, .byte), (cR, .object R_V)]) [0, 1] rfl
      exact W.aret (v := .ref ra_3) hx hb hr (Or.inl ⟨_, rfl⟩) (Or.inr ⟨_, rfl⟩) (fun t ht hW => ⟨⟨(), ra_3, rfl, trivial, hty2_4, hba2_5, hby2_6, k2_7, f2_8, kb2_9, fb2_10, vp2_11, a2_12, B2_13, ⟨hu_14_0, hu_14_1⟩, by rw [ht]; exact hP9, va_K.moved hW.alike hK9, hD9⟩, hS.F ht⟩) hS.2.2 d_M_makeBase_27
  · have hz0 : n9 = 0 := (nI_eq (b := 0) (by omega) (by decide)).mp c_1
    refine lv_aload_n hx hb d_M_makeBase_4 rfl (lv_at hl 0 rfl) ?_
    refine va_get (D := (dC, dI)) (ci := 2) (v := .ref hta) (C := R_M) (T := F_M) (N := 4) hx hb hw0 in_M hown hK hP 0 rfl rfl 1 (by decide) (hw0 (.fieldLink R_M 18 "TextKeeper$Maker" "text" "LTextKeeper$Text;") wm_156) (fun _ h9 => h9) rfl d_M_makeBase_5 ?_
    refine lv_iconst (v := 0) hx hb d_M_makeBase_8 (by decide) ?_
    have hPc := hP.sub (ws' := [(hta, .inr (1, [.ref hty, .int (nI k)])), (hty, .inl (cB, 256, .inl ((f))))]) [1, 2] rfl
    have hKc := hK.sub (tys' := [(cB, .byte)]) [0] rfl
    have hDc := hD.sub (ws' := [(hta, .inr (1, [.ref hty, .int (nI k)])), (hty, .inl (cB, 256, .inl ((f))))]) [1, 2] (by decide) rfl
    have hFc := va_free (wc := [(hta, .inr (1, [.ref hty, .int (nI k)])), (hty, .inl (cB, 256, .inl ((f))))]) hD hS hA [1, 2] rfl
    refine va_calli (va_runV (As := [.int 0]) (rest := []) ⟨hx, hb, hml, hown, hw0⟩ (g_shorten_T l dC dI s.heap.size hta hty cB k (f) T 0 (by first | assumption | decide | omega) (by first | assumption | decide | omega) (by first | assumption | decide | omega)) (cwV 1 hw0 (gd_Vm wm_317 wm_318 wm_319 wm_151 wm_320) rfl rfl rfl (by decide +kernel) ⟨by decide +kernel, by decide +kernel⟩) (prV_E hPc hKc hDc hN (va_recv hKc hPc (ci := 1) (q0 := 0) rfl rfl)) rfl rfl hl.1 rfl (lv_room (Nat.le_of_ble_eq_true rfl)) d_M_makeBase_9 ⟨by decide +kernel, by decide +kernel⟩) hS (fun q _ h => hFc q h) hFc (fun r_15 u t H1 locs ht hvm hw hB hz1 hk1 hS => ?_)
    obtain ⟨hu_16, hP1, hK1, hD1⟩ := hB
    rw [ht] at hP1
    have hK1 := va_K.moved hvm.symm hK1
    try dsimp only at hw
    obtain ⟨hP, hD⟩ := va_joinQ (wr := [(h0, .inr (2, [.ref hba, .ref hta, vp, .int a0])), (hba, .inr (1, [.ref hby, .int (nI kb)])), (hby, .inl (cB, 256, .inl (fb))), (hdo, .inr (5, [.ref hra, .int (nI df), .int (nI dn)])), (hra, .inl (cR, 64, .inr (.inr (.inr (.inr ((rvA rv)))))))]) (w1 := [(hta, .inr (1, [.ref hty, .int (nI 0)])), (hty, .inl (cB, 256, .inl ((f))))]) hP hD [1, 2] [0, 3, 4, 5, 6] rfl rfl (by decide) (by decide) hk1 hFc hP1 hD1
    generalize H1 = H at hP hS ⊢
    replace hP : va_P (dC, dI) vwCl (([(h0, .inr (2, [.ref hba, .ref hta, vp, .int a0])), (hba, .inr (1, [.ref hby, .int (nI kb)])), (hby, .inl (cB, 256, .inl (fb))), (hdo, .inr (5, [.ref hra, .int (nI df), .int (nI dn)])), (hra, .inl (cR, 64, .inr (.inr (.inr (.inr ((rvA rv))))))), (hta, .inr (1, [.ref hty, .int (nI 0)])), (hty, .inl (cB, 256, .inl ((f))))] : va_W) ++ pl) H := hP
    replace hD : va_D A (([(h0, .inr (2, [.ref hba, .ref hta, vp, .int a0])), (hba, .inr (1, [.ref hby, .int (nI kb)])), (hby, .inl (cB, 256, .inl (fb))), (hdo, .inr (5, [.ref hra, .int (nI df), .int (nI dn)])), (hra, .inl (cR, 64, .inr (.inr (.inr (.inr ((rvA rv))))))), (hta, .inr (1, [.ref hty, .int (nI 0)])), (hty, .inl (cB, 256, .inl ((f))))] : va_W) ++ pl) := hD
    replace hK : va_K (dC, dI) vwCl [(cB, .byte), (cR, .object R_V)] s := hK
    obtain rfl : r_15 = 1 := hw
    refine lv_pop hx hb d_M_makeBase_12 rfl ?_
    refine lv_aload_n hx hb d_M_makeBase_13 rfl (lv_at hl 0 rfl) ?_
    refine va_get (D := (dC, dI)) (ci := 2) (v := .ref hta) (C := R_M) (T := F_M) (N := 4) hx hb hw0 in_M hown hK hP 0 rfl rfl 1 (by decide) (hw0 (.fieldLink R_M 18 "TextKeeper$Maker" "text" "LTextKeeper$Text;") wm_156) (fun _ h9 => h9) rfl d_M_makeBase_14 ?_
    have hP9 := hP.part (cx := [(h0, .inr (2, [.ref hba, .ref hta, vp, .int a0])), (hta, .inr (1, [.ref hty, .int (nI 0)])), (hty, .inl (cB, 256, .inl ((f)))), (hba, .inr (1, [.ref hby, .int (nI kb)])), (hby, .inl (cB, 256, .inl (fb))), (hdo, .inr (5, [.ref hra, .int (nI df), .int (nI dn)])), (hra, .inl (cR, 64, .inr (.inr (.inr (.inr ((rvA rv)))))))]) [0, 5, 6, 1, 2, 3, 4] rfl
    have hD9 := hD.part (cx := [(h0, .inr (2, [.ref hba, .ref hta, vp, .int a0])), (hta, .inr (1, [.ref hty, .int (nI 0)])), (hty, .inl (cB, 256, .inl ((f)))), (hba, .inr (1, [.ref hby, .int (nI kb)])), (hby, .inl (cB, 256, .inl (fb))), (hdo, .inr (5, [.ref hra, .int (nI df), .int (nI dn)])), (hra, .inl (cR, 64, .inr (.inr (.inr (.inr ((rvA rv)))))))]) [0, 5, 6, 1, 2, 3, 4] (by decide) rfl
    have hK9 := hK.sub (tys' := [(cB, .byte), (cR, .object R_V)]) [0, 1] rfl
    exact W.aret (v := .ref hta) hx hb hr (Or.inl ⟨_, rfl⟩) (Or.inr ⟨_, rfl⟩) (fun t ht hW => ⟨⟨(), hta, rfl, trivial, hty, hba, hby, 0, (f), kb, fb, vp, a0, Bs, ⟨⟨(by have h9 := hu_16; rw [List.take_zero] at h9; rw [show Y = [] from (Option.some.inj ((if_pos hz0).symm.trans hbz)).symm]; exact h9), (by omega)⟩, ⟨htb, hkb⟩⟩, by rw [ht]; exact hP9, va_K.moved hW.alike hK9, hD9⟩, hS.F ht⟩) hS.2.2 d_M_makeBase_17
set_option maxHeartbeats 4000000 in
set_option maxRecDepth 100000 in
theorem g_makeBase_N (l : Launch) (dC : Nat → ClassId) (dI : Nat → Nat → Nat) (sz : Nat) (h0 : Nat) (hta : Nat) (hty : Nat) (hba : Nat) (hby : Nat) (cB : ClassId) (k : Nat) (f : Nat → Int32) (kb : Nat) (fb : Nat → Int32) (vp : Value) (a0 : Int32) (T : List Int32) (Bs : List Int32) (hdo : Nat) (hra : Nat) (cR : ClassId) (df : Nat) (dn : Nat) (rv : Nat → Option Rc) (pl : va_W) (n9 : Nat) (htt : tx T k f) (hk : k ≤ 256) (htb : tx Bs kb fb) (hkb : kb ≤ 256) (hdn : dn ≤ 64) (hn9 : n9 < 64) (hn8 : n9 ≤ dn) (hpl : plR cB rv pl) (hok : rvOk rv) (hbz : basR rv n9 = none) : Met l y_M_makeBase k_M_makeBase ({ frames := 5, cells := 0, slots := 0, locals := 119 } : Room) (va_Pc [.ref h0, .ref hdo, .int (nI n9)] (pc_E (dC, dI) (([(h0, .inr (2, [.ref hba, .ref hta, vp, .int a0])), (hta, .inr (1, [.ref hty, .int (nI k)])), (hty, .inl (cB, 256, .inl (f))), (hba, .inr (1, [.ref hby, .int (nI kb)])), (hby, .inl (cB, 256, .inl (fb))), (hdo, .inr (5, [.ref hra, .int (nI df), .int (nI dn)])), (hra, .inl (cR, 64, .inr (.inr (.inr (.inr ((rvA rv)))))))] : va_W) ++ pl) [(cB, .byte), (cR, .object R_V)] sz)) (va_Qq (fun (r : Option Nat) (_ : Unit) => r = none) (fun (_ : Unit) t => ∃ (hta2 : Nat) (hty2 : Nat) (hba2 : Nat) (hby2 : Nat) (k2 : Nat) (f2 : Nat → Int32) (kb2 : Nat) (fb2 : Nat → Int32) (vp2 : Value) (a2 : Int32) (B2 : List Int32) (T2 : List Int32), ((tx T2 k2 f2 ∧ k2 ≤ 256) ∧ (tx B2 kb2 fb2 ∧ kb2 ≤ 256)) ∧ at_E (dC, dI) (va_A (([(h0, .inr (2, [.ref hba, .ref hta, vp, .int a0])), (hta, .inr (1, [.ref hty, .int (nI k)])), (hty, .inl (cB, 256, .inl (f))), (hba, .inr (1, [.ref hby, .int (nI kb)])), (hby, .inl (cB, 256, .inl (fb))), (hdo, .inr (5, [.ref hra, .int (nI df), .int (nI dn)])), (hra, .inl (cR, 64, .inr (.inr (.inr (.inr ((rvA rv)))))))] : va_W) ++ pl) sz) (([(h0, .inr (2, [.ref hba2, .ref hta2, vp2, .int a2])), (hta2, .inr (1, [.ref hty2, .int (nI k2)])), (hty2, .inl (cB, 256, .inl (f2))), (hba2, .inr (1, [.ref hby2, .int (nI kb2)])), (hby2, .inl (cB, 256, .inl (fb2))), (hdo, .inr (5, [.ref hra, .int (nI df), .int (nI dn)])), (hra, .inl (cR, 64, .inr (.inr (.inr (.inr ((rvA rv)))))))] : va_W) ++ pl) [(cB, .byte), (cR, .object R_V)] t) (va_A (([(h0, .inr (2, [.ref hba, .ref hta, vp, .int a0])), (hta, .inr (1, [.ref hty, .int (nI k)])), (hty, .inl (cB, 256, .inl (f))), (hba, .inr (1, [.ref hby, .int (nI kb)])), (hby, .inl (cB, 256, .inl (fb))), (hdo, .inr (5, [.ref hra, .int (nI df), .int (nI dn)])), (hra, .inl (cR, 64, .inr (.inr (.inr (.inr ((rvA rv)))))))] : va_W) ++ pl) sz)) 0 0 (va_A (([(h0, .inr (2, [.ref hba, .ref hta, vp, .int a0])), (hta, .inr (1, [.ref hty, .int (nI k)])), (hty, .inl (cB, 256, .inl (f))), (hba, .inr (1, [.ref hby, .int (nI kb)])), (hby, .inl (cB, 256, .inl (fb))), (hdo, .inr (5, [.ref hra, .int (nI df), .int (nI dn)])), (hra, .inl (cR, 64, .inr (.inr (.inr (.inr ((rvA rv)))))))] : va_W) ++ pl) sz) := by
  refine Met.ofW (cc := prog_3_method_2_code) (maxL := 3) (ret := (some (.object "TextKeeper$Text"))) (by decide) rfl ?_
  intro p e s m args below meth c s₁ B hml hv
  obtain ⟨rfl, hsz, hP, hK, hD0, hN⟩ := hv
  have hx := B.exec
  have hb := B.bytes
  have hr := B.returns
  have hts := atoms_spec (ws := k_M_makeBase) B.pre
  have hw0 : ∀ w ∈ w0, w.before _ s = true := fun w h => hts w (List.mem_cons_of_mem _ h)
  have hown : s.vm.findClass R_M = some m.cls := findClass_of_methodNamed B.named
  have hlocks := B.notSynchronized
  subst hsz
  have hD := hD0.self (sz := s.heap.size)
  generalize hAe : va_A (([(h0, .inr (2, [.ref hba, .ref hta, vp, .int a0])), (hta, .inr (1, [.ref hty, .int (nI k)])), (hty, .inl (cB, 256, .inl (f))), (hba, .inr (1, [.ref hby, .int (nI kb)])), (hby, .inl (cB, 256, .inl (fb))), (hdo, .inr (5, [.ref hra, .int (nI df), .int (nI dn)])), (hra, .inl (cR, 64, .inr (.inr (.inr (.inr ((rvA rv)))))))] : va_W) ++ pl) s.heap.size = A at hD ⊢
  have hA : ∀ q : Nat, s.heap.size ≤ q → A q := fun q h => by rw [← hAe]; exact Or.inr h
  have hS : va_S A s.heap s.heap [] := va_S.rf
  have hP : va_P (dC, dI) vwCl (([(h0, .inr (2, [.ref hba, .ref hta, vp, .int a0])), (hta, .inr (1, [.ref hty, .int (nI k)])), (hty, .inl (cB, 256, .inl (f))), (hba, .inr (1, [.ref hby, .int (nI kb)])), (hby, .inl (cB, 256, .inl (fb))), (hdo, .inr (5, [.ref hra, .int (nI df), .int (nI dn)])), (hra, .inl (cR, 64, .inr (.inr (.inr (.inr ((rvA rv)))))))] : va_W) ++ pl) s.heap := hP
  have hl := lv_entry ([.ref h0, .ref hdo, .int (nI n9)]) (n := 3) (Nat.le_of_ble_eq_true rfl)
  rw [lg_entry_eq]
  generalize (lg_sl ([.ref h0, .ref hdo, .int (nI n9)]) ++ List.replicate (3 - (lg_sl ([.ref h0, .ref hdo, .int (nI n9)])).length) Slot.unset).toArray = ls at hl ⊢
  have hl : lv_has ls 3 [(0, .ref h0), (1, .ref hdo), (2, .int (nI n9))] := hl
  refine lv_iload_n hx hb d_M_makeBase_0 rfl (lv_at hl 2 rfl) ?_
  refine lv_if_ne (tgt := 18) hx hb d_M_makeBase_1 (by decide) (fun c_1 => ?_) (fun c_1 => ?_)
  · have hz0 : ¬ n9 = 0 := (fun z => c_1 (by rw [z]; rfl)); have hbs := bs_nI n9 (by omega); have hag : agn (rvP rv) (bs n9) = _ := (if_neg hz0).symm.trans hbz
    refine lv_aload_n hx hb d_M_makeBase_18 rfl (lv_at hl 0 rfl) ?_
    refine lv_aload_n hx hb d_M_makeBase_19 rfl (lv_at hl 1 rfl) ?_
    refine lv_iload_n hx hb d_M_makeBase_20 rfl (lv_at hl 2 rfl) ?_
    have hPc := hP.sub (ws' := []) [] rfl
    have hKc := hK.sub (tys' := []) [] rfl
    refine ps_i (va_runSN (As := [.int (nI n9)]) (rest := [.ref hdo, .ref h0]) ⟨hx, hb, hml, hown, hw0⟩ (g_baseOf l dC dI (nI n9)) ⟨va_cnB 1 hw0 (gd_Im wm_307) rfl rfl rfl (hN.1 (.methodLinkNest R_M 33 y_K_baseOf "TextKeeper") (List.mem_of_getElem? (i := 12) rfl)) (hw0 (.initialized R_K) wm_308) (by decide +kernel) ⟨by decide +kernel, by decide +kernel⟩, (hw0 (.static y_K_baseOf) wm_309), trivial⟩ (prS_R hPc hKc hN) rfl rfl hl.1 rfl (lv_room (Nat.le_of_ble_eq_true rfl)) d_M_makeBase_21 ⟨by decide +kernel, by decide +kernel⟩) (fun r_2 hr_2 => ?_)
    obtain rfl : r_2 = ((nI n9) &&& ((nI n9) - 1)) := hr_2
    refine W.eq (g2 := F0 m 24 ls [.int (nI (bs n9)), .ref hdo, .ref h0]) (by rw [hbs.1]) ?_
    · have hbd9 : bs n9 < dn := (by omega)
      have hPc := hP.part (cx := [(h0, .inr (2, [.ref hba, .ref hta, vp, .int a0])), (hta, .inr (1, [.ref hty, .int (nI k)])), (hty, .inl (cB, 256, .inl ((f)))), (hba, .inr (1, [.ref hby, .int (nI kb)])), (hby, .inl (cB, 256, .inl ((fb)))), (hdo, .inr (5, [.ref hra, .int (nI df), .int (nI dn)])), (hra, .inl (cR, 64, .inr (.inr (.inr (.inr ((rvA rv)))))))]) [0, 1, 2, 3, 4, 5, 6] rfl
      have hKc := hK.sub (tys' := [(cB, .byte), (cR, .object R_V)]) [0, 1] rfl
      have hDc := hD.part (cx := [(h0, .inr (2, [.ref hba, .ref hta, vp, .int a0])), (hta, .inr (1, [.ref hty, .int (nI k)])), (hty, .inl (cB, 256, .inl ((f)))), (hba, .inr (1, [.ref hby, .int (nI kb)])), (hby, .inl (cB, 256, .inl ((fb)))), (hdo, .inr (5, [.ref hra, .int (nI df), .int (nI dn)])), (hra, .inl (cR, 64, .inr (.inr (.inr (.inr ((rvA rv)))))))]) [0, 1, 2, 3, 4, 5, 6] (by decide) rfl
      have hFc := va_freeP (cx := [(h0, .inr (2, [.ref hba, .ref hta, vp, .int a0])), (hta, .inr (1, [.ref hty, .int (nI k)])), (hty, .inl (cB, 256, .inl ((f)))), (hba, .inr (1, [.ref hby, .int (nI kb)])), (hby, .inl (cB, 256, .inl ((fb)))), (hdo, .inr (5, [.ref hra, .int (nI df), .int (nI dn)])), (hra, .inl (cR, 64, .inr (.inr (.inr (.inr ((rvA rv)))))))]) hD hS hA [0, 1, 2, 3, 4, 5, 6] rfl
      refine va_callq (va_runV (As := [.ref hdo, .int (nI (bs n9))]) (rest := []) ⟨hx, hb, hml, hown, hw0⟩ (g_makeAgain_N l dC dI s.heap.size h0 hta hty hba hby cB k (f) kb (fb) vp a0 T Bs hdo hra cR df dn _ pl (bs n9) (by first | assumption | decide | omega) (by first | assumption | decide | omega) (by first | assumption | decide | omega) (by first | assumption | decide | omega) (by first | assumption | decide | omega) (by first | assumption | decide | omega) (by first | assumption | decide | omega) (by first | assumption | decide | omega) (by first | assumption | decide | omega)) (cwV 2 hw0 (gd_Vm wm_325 wm_326 wm_327 wm_169 wm_328) rfl rfl rfl (by decide +kernel) ⟨by decide +kernel, by decide +kernel⟩) (prV_E hPc hKc hDc hN (va_recv hKc hPc (ci := 2) (q0 := 0) rfl rfl)) rfl rfl hl.1 rfl (lv_room (Nat.le_of_ble_eq_true rfl)) d_M_makeBase_24 ⟨by decide +kernel, by decide +kernel⟩) hS (fun q _ h => hFc q h) hFc (fun r_3 u t H1 locs ht hvm hw hB hz1 hk1 hS => ?_)
      obtain ⟨hta2_4, hty2_5, hba2_6, hby2_7, k2_8, f2_9, kb2_10, fb2_11, vp2_12, a2_13, B2_14, T2_15, ⟨hu_16_0, hu_16_1⟩, hP1, hK1, hD1⟩ := hB
      rw [ht] at hP1
      have hK1 := va_K.moved hvm.symm hK1
      try dsimp only at hw
      obtain ⟨hP, hD⟩ := va_joinP (wr := []) (rx := [(h0, .inr (2, [.ref hba2_6, .ref hta2_4, vp2_12, .int a2_13])), (hta2_4, .inr (1, [.ref hty2_5, .int (nI k2_8)])), (hty2_5, .inl (cB, 256, .inl (f2_9))), (hba2_6, .inr (1, [.ref hby2_7, .int (nI kb2_10)])), (hby2_7, .inl (cB, 256, .inl (fb2_11))), (hdo, .inr (5, [.ref hra, .int (nI df), .int (nI dn)])), (hra, .inl (cR, 64, .inr (.inr (.inr (.inr ((rvA rv)))))))]) hP hD [0, 1, 2, 3, 4, 5, 6] [] rfl rfl (by decide) (by decide) hk1 hFc hP1 hD1
      generalize H1 = H at hP hS ⊢
      replace hP : va_P (dC, dI) vwCl (([(h0, .inr (2, [.ref hba2_6, .ref hta2_4, vp2_12, .int a2_13])), (hta2_4, .inr (1, [.ref hty2_5, .int (nI k2_8)])), (hty2_5, .inl (cB, 256, .inl (f2_9))), (hba2_6, .inr (1, [.ref hby2_7, .int (nI kb2_10)])), (hby2_7, .inl (cB, 256, .inl (fb2_11))), (hdo, .inr (5, [.ref hra, .int (nI df), .int (nI dn)])), (hra, .inl (cR, 64, .inr (.inr (.inr (.inr ((rvA rv)))))))] : va_W) ++ pl) H := hP
      replace hD : va_D A (([(h0, .inr (2, [.ref hba2_6, .ref hta2_4, vp2_12, .int a2_13])), (hta2_4, .inr (1, [.ref hty2_5, .int (nI k2_8)])), (hty2_5, .inl (cB, 256, .inl (f2_9))), (hba2_6, .inr (1, [.ref hby2_7, .int (nI kb2_10)])), (hby2_7, .inl (cB, 256, .inl (fb2_11))), (hdo, .inr (5, [.ref hra, .int (nI df), .int (nI dn)])), (hra, .inl (cR, 64, .inr (.inr (.inr (.inr ((rvA rv)))))))] : va_W) ++ pl) := hD
      replace hK : va_K (dC, dI) vwCl [(cB, .byte), (cR, .object R_V)] s := hK
      obtain rfl : r_3 = none := hw
      refine W.eq (g2 := F0 m 27 ls [.null]) rfl ?_
      have hP9 := hP.part (cx := [(h0, .inr (2, [.ref hba2_6, .ref hta2_4, vp2_12, .int a2_13])), (hta2_4, .inr (1, [.ref hty2_5, .int (nI k2_8)])), (hty2_5, .inl (cB, 256, .inl (f2_9))), (hba2_6, .inr (1, [.ref hby2_7, .int (nI kb2_10)])), (hby2_7, .inl (cB, 256, .inl (fb2_11))), (hdo, .inr (5, [.ref hra, .int (nI df), .int (nI dn)])), (hra, .inl (cR, 64, .inr (.inr (.inr (.inr ((rvA rv)))))))]) [0, 1, 2, 3, 4, 5, 6] rfl
      have hD9 := hD.part (cx := [(h0, .inr (2, [.ref hba2_6, .ref hta2_4, vp2_12, .int a2_13])), (hta2_4, .inr (1, [.ref hty2_5, .int (nI k2_8)])), (hty2_5, .inl (cB, 256, .inl (f2_9))), (hba2_6, .inr (1, [.ref hby2_7, .int (nI kb2_10)])), (hby2_7, .inl (cB, 256, .inl (fb2_11))), (hdo, .inr (5, [.ref hra, .int (nI df), .int (nI dn)])), (hra, .inl (cR, 64, .inr (.inr (.inr (.inr ((rvA rv)))))))]) [0, 1, 2, 3, 4, 5, 6] (by decide) rfl
      have hK9 := hK.sub (tys' := [(cB, .byte), (cR, .object R_V)]) [0, 1] rfl
      exact W.aret (v := .null) hx hb hr (Or.inl ⟨_, rfl⟩) (Or.inl rfl) (fun t ht hW => ⟨⟨none, (), rfl, rfl, hta2_4, hty2_5, hba2_6, hby2_7, k2_8, f2_9, kb2_10, fb2_11, vp2_12, a2_13, B2_14, T2_15, ⟨hu_16_0, hu_16_1⟩, by rw [ht]; exact hP9, va_K.moved hW.alike hK9, hD9⟩, hS.F ht⟩) hS.2.2 d_M_makeBase_27
  · have hz0 : n9 = 0 := (nI_eq (b := 0) (by omega) (by decide)).mp c_1
    exact absurd ((if_pos hz0).symm.trans hbz) (fun q => by cases q)
end
