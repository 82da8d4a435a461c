set_option maxHeartbeats 4000000 in
set_option maxRecDepth 100000 in
theorem lo_shu {p : Program} {l : Launch} {e : Env} {s : State} {m : MethodId} {args : Array Value} {below : List Frame} {meth : Method} {c : Code} {dC : Nat → ClassId} {dI : Nat → Nat → Nat} {A : Nat → Prop} {Q : State → Prop} {R : Room} (h0 : Nat) (i_thrown : Int32) (i_down : Int32) (i_lasts : Int32) (v_buffer : Value) (i_size : Int32) (i_documents : Int32) (v_gone : Value) (v_first : Value) (v_many : Value) (v_lengths : Value) (v_authors : Value) (v_sums : Value) (v_made : Value) (i_madeSize : Int32) (v_base : Value) (i_baseSize : Int32) (v_text : Value) (i_textSize : Int32) (i_textSteps : Int32) (v_other : Value) (i_otherSize : Int32) (v_piece : Value) (i_at : Int32) (i_end : Int32) (i_value : Int32) (hrow : Nat) (cB : ClassId) (fr : Nat → Int32) (n9 : Nat) (b9 : Nat) (pl : va_W) (d9 : Nat) (a2 : Int32) (r9 : Nat) (q9 : Nat) (hbn : b9 + n9 ≤ 16384)
    (hx : p.tables.exec = Jvm.exec) (hb : c.code = prog_9_method_27_code) (hml : c.maxLocals = 7) (hown : s.vm.findClass R_O = some m.cls) (hw0 : ∀ w ∈ w0, w.before args s = true) (hN : nw_ok s) (hK : va_K (dC, dI) vwCl [(cB, .byte)] s) (hA : ∀ q : Nat, s.heap.size ≤ q → A q)
    (kk : ∀ (H : Heap) (locs : List Loc), va_P (dC, dI) vwCl (([(h0, .inr (7, [.int i_thrown, .int i_down, .int i_lasts, v_buffer, .int i_size, .int i_documents, v_gone, v_first, v_many, v_lengths, v_authors, v_sums, .ref hrow, v_made, .int i_madeSize, v_base, .int i_baseSize, v_text, .int i_textSize, .int i_textSteps, v_other, .int i_otherSize, v_piece, .int (nI n9), .int i_at, .int i_end, .int i_value])), (hrow, .inl (cB, 16384, .inl ((shu fr n9 (16384 - (16384 - (b9 + n9)))))))] : va_W) ++ pl) H → va_D A (([(h0, .inr (7, [.int i_thrown, .int i_down, .int i_lasts, v_buffer, .int i_size, .int i_documents, v_gone, v_first, v_many, v_lengths, v_authors, v_sums, .ref hrow, v_made, .int i_madeSize, v_base, .int i_baseSize, v_text, .int i_textSize, .int i_textSteps, v_other, .int i_otherSize, v_piece, .int (nI n9), .int i_at, .int i_end, .int i_value])), (hrow, .inl (cB, 16384, .inl ((shu fr n9 (16384 - (16384 - (b9 + n9)))))))] : va_W) ++ pl) → va_S A s.heap H locs → ∀ ls : Array Slot, lv_has ls 7 [(6, .int (nwI (16384 - (16384 - (b9 + n9))))), (0, .ref h0), (1, .int (nI d9)), (2, .int a2), (3, .int (nI r9)), (4, .int (nI q9)), (5, .int (nI b9))] → W p l e R s m args below meth c H locs 0 0 Q (F0 m 167 ls [])) :
    ∀ (n j : Nat), j ≤ (16384 - (b9 + n9)) → (16384 - (b9 + n9)) < j + n → ∀ (H : Heap) (locs : List Loc), va_P (dC, dI) vwCl (([(h0, .inr (7, [.int i_thrown, .int i_down, .int i_lasts, v_buffer, .int i_size, .int i_documents, v_gone, v_first, v_many, v_lengths, v_authors, v_sums, .ref hrow, v_made, .int i_madeSize, v_base, .int i_baseSize, v_text, .int i_textSize, .int i_textSteps, v_other, .int i_otherSize, v_piece, .int (nI n9), .int i_at, .int i_end, .int i_value])), (hrow, .inl (cB, 16384, .inl ((shu fr n9 (16384 - j)))))] : va_W) ++ pl) H → va_D A (([(h0, .inr (7, [.int i_thrown, .int i_down, .int i_lasts, v_buffer, .int i_size, .int i_documents, v_gone, v_first, v_many, v_lengths, v_authors, v_sums, .ref hrow, v_made, .int i_madeSize, v_base, .int i_baseSize, v_text, .int i_textSize, .int i_textSteps, v_other, .int i_otherSize, v_piece, .int (nI n9), .int i_at, .int i_end, .int i_value])), (hrow, .inl (cB, 16384, .inl ((shu fr n9 (16384 - j)))))] : va_W) ++ pl) → va_S A s.heap H locs → ∀ ls : Array Slot, lv_has ls 7 [(6, .int (nwI (16384 - j))), (0, .ref h0), (1, .int (nI d9)), (2, .int a2), (3, .int (nI r9)), (4, .int (nI q9)), (5, .int (nI b9))] → W p l e R s m args below meth c H locs 0 0 Q (F0 m 130 ls []) := by
  intro n
  induction n with
  | zero => intro j h1 h2; exact absurd h2 (by omega)
  | succ n ih =>
    intro j hj hn   H locs hP hD hS ls hl
    refine lv_iload hx hb d_O_commit_130 (lv_at hl 0 rfl) ?_
    refine lv_iload hx hb d_O_commit_132 (lv_at hl 6 rfl) ?_
    refine lv_aload_n hx hb d_O_commit_134 rfl (lv_at hl 1 rfl) ?_
    refine va_get (D := (dC, dI)) (ci := 7) (v := .int (nI n9)) (C := R_O) (T := F_O) (N := 27) hx hb hw0 in_O hown hK hP 0 rfl rfl 23 (by decide) (hw0 (.fieldLink R_O 125 "TextKeeperModel" "pieceSize" "I") (List.mem_of_getElem? (i := 157) rfl)) (fun _ h9 => h9) rfl d_O_commit_135 ?_
    refine lv_iadd hx hb d_O_commit_138 ?_
    refine lv_topi (fun x_1 ex_1 => ?_)
    obtain rfl : x_1 = (nI (b9 + n9)) := by rw [ex_1]; exact nI_add _ _
    clear ex_1
    refine lv_icmp_lt (tgt := 167) hx hb d_O_commit_139 (by decide) (fun c_2 => ?_) (fun c_2 => ?_)
    · obtain rfl : j = 16384 - (b9 + n9) := (by have h8 := (nwI_lt (by omega) (by omega)).mp c_2; omega)
      exact kk _ _ hP hD hS ls (lv_sub hl [0, 1, 2, 3, 4, 5, 6] rfl)
    · have hg8 : ¬ 16384 - j ≤ b9 + n9 := (fun z => c_2 ((nwI_lt (by omega) (by omega)).mpr z)); obtain ⟨k8, hk8⟩ : ∃ z, 16384 - j = z + 1 := ⟨16384 - j - 1, by omega⟩; have ek8 : nwI (16384 - j) = nI k8 := (by rw [hk8]; rfl)
      refine lv_aload_n hx hb d_O_commit_142 rfl (lv_at hl 1 rfl) ?_
      refine va_get (D := (dC, dI)) (ci := 7) (v := .ref hrow) (C := R_O) (T := F_O) (N := 27) hx hb hw0 in_O hown hK hP 0 rfl rfl 12 (by decide) (hw0 (.fieldLink R_O 38 "TextKeeperModel" "row" "[B") (List.mem_of_getElem? (i := 182) rfl)) (fun _ h9 => h9) rfl d_O_commit_143 ?_
      refine lv_iload hx hb d_O_commit_146 (lv_at hl 0 rfl) ?_
      refine lv_aload_n hx hb d_O_commit_148 rfl (lv_at hl 1 rfl) ?_
      refine va_get (D := (dC, dI)) (ci := 7) (v := .ref hrow) (C := R_O) (T := F_O) (N := 27) hx hb hw0 in_O hown hK hP 0 rfl rfl 12 (by decide) (hw0 (.fieldLink R_O 38 "TextKeeperModel" "row" "[B") (List.mem_of_getElem? (i := 182) rfl)) (fun _ h9 => h9) rfl d_O_commit_149 ?_
      refine lv_iload hx hb d_O_commit_152 (lv_at hl 0 rfl) ?_
      refine lv_aload_n hx hb d_O_commit_154 rfl (lv_at hl 1 rfl) ?_
      refine va_get (D := (dC, dI)) (ci := 7) (v := .int (nI n9)) (C := R_O) (T := F_O) (N := 27) hx hb hw0 in_O hown hK hP 0 rfl rfl 23 (by decide) (hw0 (.fieldLink R_O 125 "TextKeeperModel" "pieceSize" "I") (List.mem_of_getElem? (i := 157) rfl)) (fun _ h9 => h9) rfl d_O_commit_155 ?_
      refine lv_isub hx hb d_O_commit_158 ?_
      refine lv_topi (fun x_3 ex_3 => ?_)
      obtain rfl : x_3 = (nI (k8 - n9)) := by rw [ex_3]; rw [ek8]; exact pk_sub (by omega)
      clear ex_3
      refine va_bald hx hb hK hP 1 0 rfl rfl (vp_in_nI (by omega) (by decide)) d_O_commit_159 ?_
      refine lv_topi (fun x_4 ex_4 => ?_)
      refine va_bast hx hb hK hP hD hS 1 0 rfl rfl (by rw [ek8]; exact vp_in_nI (by omega) (by decide)) d_O_commit_160 (fun H locs hP hD hS => ?_)
      replace hP : va_P (dC, dI) vwCl (([(h0, .inr (7, [.int i_thrown, .int i_down, .int i_lasts, v_buffer, .int i_size, .int i_documents, v_gone, v_first, v_many, v_lengths, v_authors, v_sums, .ref hrow, v_made, .int i_madeSize, v_base, .int i_baseSize, v_text, .int i_textSize, .int i_textSteps, v_other, .int i_otherSize, v_piece, .int (nI n9), .int i_at, .int i_end, .int i_value])), (hrow, .inl (cB, 16384, .inl (upd ((shu fr n9 (16384 - j))) (Int32.toNatClampNeg (nwI (16384 - j))) (vp_nar .byte (x_4)))))] : va_W) ++ pl) H := hP
      replace hD : va_D A (([(h0, .inr (7, [.int i_thrown, .int i_down, .int i_lasts, v_buffer, .int i_size, .int i_documents, v_gone, v_first, v_many, v_lengths, v_authors, v_sums, .ref hrow, v_made, .int i_madeSize, v_base, .int i_baseSize, v_text, .int i_textSize, .int i_textSteps, v_other, .int i_otherSize, v_piece, .int (nI n9), .int i_at, .int i_end, .int i_value])), (hrow, .inl (cB, 16384, .inl (upd ((shu fr n9 (16384 - j))) (Int32.toNatClampNeg (nwI (16384 - j))) (vp_nar .byte (x_4)))))] : va_W) ++ pl) := hD
      have eS : upd ((shu fr n9 (16384 - j))) (Int32.toNatClampNeg (nwI (16384 - j))) (vp_nar .byte (x_4)) = shu fr n9 (16384 - (j + 1)) := by rw [ek8, nI_clamp (by omega), show vp_nar .byte x_4 = nbb x_4 from vp_nar_byte x_4, ex_4, nI_clamp (by omega), show 16384 - (j + 1) = k8 by omega]; exact shu_1 hk8 (by omega)
      rw [eS] at hP hD
      obtain ⟨x_5, ex_5⟩ : ∃ y : Int32, y = (nwI (16384 - j)) + (-1) := ⟨_, rfl⟩
      refine lv_iinc (v := x_5) (lv' := [(6, .int x_5), (0, .ref h0), (1, .int (nI d9)), (2, .int a2), (3, .int (nI r9)), (4, .int (nI q9)), (5, .int (nI b9))]) hx hb d_O_commit_161 hl (k := 0) rfl (by rw [ex_5]; rfl) (by decide) rfl (fun ls hl => ?_)
      refine lv_goto (tgt := 130) hx hb d_O_commit_164 (by decide) ?_
      have e3 : x_5 = nwI (16384 - (j + 1)) := by rw [ex_5, ek8, show 16384 - (j + 1) = k8 by omega]; exact nwI_dec k8
      exact ih (j + 1) (by omega) (by omega) _ _ hP hD hS ls (by rw [← e3]; exact (lv_sub hl [0, 1, 2, 3, 4, 5, 6] rfl))
set_option maxHeartbeats 4000000 in
set_option maxRecDepth 100000 in
theorem lo_cpw {p : Program} {l : Launch} {e : Env} {s : State} {m : MethodId} {args : Array Value} {below : List Frame} {meth : Method} {c : Code} {dC : Nat → ClassId} {dI : Nat → Nat → Nat} {A : Nat → Prop} {Q : State → Prop} {R : Room} (h0 : Nat) (i_thrown : Int32) (i_down : Int32) (i_lasts : Int32) (v_buffer : Value) (i_size : Int32) (i_documents : Int32) (v_gone : Value) (v_first : Value) (v_many : Value) (v_lengths : Value) (v_authors : Value) (v_sums : Value) (v_made : Value) (i_madeSize : Int32) (v_base : Value) (i_baseSize : Int32) (v_text : Value) (i_textSize : Int32) (i_textSteps : Int32) (v_other : Value) (i_otherSize : Int32) (i_at : Int32) (i_end : Int32) (i_value : Int32) (hrow : Nat) (cB : ClassId) (g : Nat → Int32) (hpc : Nat) (fp : Nat → Int32) (n9 : Nat) (b9 : Nat) (pl : va_W) (d9 : Nat) (a2 : Int32) (r9 : Nat) (q9 : Nat) (hbn : b9 + n9 ≤ 16384) (hn9 : n9 ≤ 514)
    (hx : p.tables.exec = Jvm.exec) (hb : c.code = prog_9_method_27_code) (hml : c.maxLocals = 7) (hown : s.vm.findClass R_O = some m.cls) (hw0 : ∀ w ∈ w0, w.before args s = true) (hN : nw_ok s) (hK : va_K (dC, dI) vwCl [(cB, .byte)] s) (hA : ∀ q : Nat, s.heap.size ≤ q → A q)
    (kk : ∀ (H : Heap) (locs : List Loc), va_P (dC, dI) vwCl (([(h0, .inr (7, [.int i_thrown, .int i_down, .int i_lasts, v_buffer, .int i_size, .int i_documents, v_gone, v_first, v_many, v_lengths, v_authors, v_sums, .ref hrow, v_made, .int i_madeSize, v_base, .int i_baseSize, v_text, .int i_textSize, .int i_textSteps, v_other, .int i_otherSize, .ref hpc, .int (nI n9), .int i_at, .int i_end, .int i_value])), (hrow, .inl (cB, 16384, .inl ((cpw g fp b9 n9)))), (hpc, .inl (cB, 600, .inl (fp)))] : va_W) ++ pl) H → va_D A (([(h0, .inr (7, [.int i_thrown, .int i_down, .int i_lasts, v_buffer, .int i_size, .int i_documents, v_gone, v_first, v_many, v_lengths, v_authors, v_sums, .ref hrow, v_made, .int i_madeSize, v_base, .int i_baseSize, v_text, .int i_textSize, .int i_textSteps, v_other, .int i_otherSize, .ref hpc, .int (nI n9), .int i_at, .int i_end, .int i_value])), (hrow, .inl (cB, 16384, .inl ((cpw g fp b9 n9)))), (hpc, .inl (cB, 600, .inl (fp)))] : va_W) ++ pl) → va_S A s.heap H locs → ∀ ls : Array Slot, lv_has ls 7 [(6, .int (nI n9)), (0, .ref h0), (1, .int (nI d9)), (2, .int a2), (3, .int (nI r9)), (4, .int (nI q9)), (5, .int (nI b9))] → W p l e R s m args below meth c H locs 0 0 Q (F0 m 202 ls [])) :
    ∀ (n j : Nat), j ≤ n9 → n9 < j + n → ∀ (H : Heap) (locs : List Loc), va_P (dC, dI) vwCl (([(h0, .inr (7, [.int i_thrown, .int i_down, .int i_lasts, v_buffer, .int i_size, .int i_documents, v_gone, v_first, v_many, v_lengths, v_authors, v_sums, .ref hrow, v_made, .int i_madeSize, v_base, .int i_baseSize, v_text, .int i_textSize, .int i_textSteps, v_other, .int i_otherSize, .ref hpc, .int (nI n9), .int i_at, .int i_end, .int i_value])), (hrow, .inl (cB, 16384, .inl ((cpw g fp b9 j)))), (hpc, .inl (cB, 600, .inl (fp)))] : va_W) ++ pl) H → va_D A (([(h0, .inr (7, [.int i_thrown, .int i_down, .int i_lasts, v_buffer, .int i_size, .int i_documents, v_gone, v_first, v_many, v_lengths, v_authors, v_sums, .ref hrow, v_made, .int i_madeSize, v_base, .int i_baseSize, v_text, .int i_textSize, .int i_textSteps, v_other, .int i_otherSize, .ref hpc, .int (nI n9), .int i_at, .int i_end, .int i_value])), (hrow, .inl (cB, 16384, .inl ((cpw g fp b9 j)))), (hpc, .inl (cB, 600, .inl (fp)))] : va_W) ++ pl) → va_S A s.heap H locs → ∀ ls : Array Slot, lv_has ls 7 [(6, .int (nI j)), (0, .ref h0), (1, .int (nI d9)), (2, .int a2), (3, .int (nI r9)), (4, .int (nI q9)), (5, .int (nI b9))] → W p l e R s m args below meth c H locs 0 0 Q (F0 m 170 ls []) := by
  intro n
  induction n with
  | zero => intro j h1 h2; exact absurd h2 (by omega)
  | succ n ih =>
    intro j hj hn   H locs hP hD hS ls hl
    refine lv_iload hx hb d_O_commit_170 (lv_at hl 0 rfl) ?_
    refine lv_aload_n hx hb d_O_commit_172 rfl (lv_at hl 1 rfl) ?_
    refine va_get (D := (dC, dI)) (ci := 7) (v := .int (nI n9)) (C := R_O) (T := F_O) (N := 27) hx hb hw0 in_O hown hK hP 0 rfl rfl 23 (by decide) (hw0 (.fieldLink R_O 125 "TextKeeperModel" "pieceSize" "I") (List.mem_of_getElem? (i := 157) rfl)) (fun _ h9 => h9) rfl d_O_commit_173 ?_
    refine lv_icmp_ge (tgt := 202) hx hb d_O_commit_176 (by decide) (fun c_1 => ?_) (fun c_1 => ?_)
    · obtain rfl : j = n9 := x_geN (by omega) hj c_1
      exact kk _ _ hP hD hS ls (lv_sub hl [0, 1, 2, 3, 4, 5, 6] rfl)
    · have hlt : j < n9 := x_ltN (by omega) hj c_1
      refine lv_aload_n hx hb d_O_commit_179 rfl (lv_at hl 1 rfl) ?_
      refine va_get (D := (dC, dI)) (ci := 7) (v := .ref hrow) (C := R_O) (T := F_O) (N := 27) hx hb hw0 in_O hown hK hP 0 rfl rfl 12 (by decide) (hw0 (.fieldLink R_O 38 "TextKeeperModel" "row" "[B") (List.mem_of_getElem? (i := 182) rfl)) (fun _ h9 => h9) rfl d_O_commit_180 ?_
      refine lv_iload hx hb d_O_commit_183 (lv_at hl 6 rfl) ?_
      refine lv_iload hx hb d_O_commit_185 (lv_at hl 0 rfl) ?_
      refine lv_iadd hx hb d_O_commit_187 ?_
      refine lv_topi (fun x_2 ex_2 => ?_)
      obtain rfl : x_2 = (nI (b9 + j)) := by rw [ex_2]; exact nI_add _ _
      clear ex_2
      refine lv_aload_n hx hb d_O_commit_188 rfl (lv_at hl 1 rfl) ?_
      refine va_get (D := (dC, dI)) (ci := 7) (v := .ref hpc) (C := R_O) (T := F_O) (N := 27) hx hb hw0 in_O hown hK hP 0 rfl rfl 22 (by decide) (hw0 (.fieldLink R_O 59 "TextKeeperModel" "piece" "[B") (List.mem_of_getElem? (i := 156) rfl)) (fun _ h9 => h9) rfl d_O_commit_189 ?_
      refine lv_iload hx hb d_O_commit_192 (lv_at hl 0 rfl) ?_
      refine va_bald hx hb hK hP 2 0 rfl rfl (vp_in_nI (by omega) (by decide)) d_O_commit_194 ?_
      refine lv_topi (fun x_3 ex_3 => ?_)
      refine va_bast hx hb hK hP hD hS 1 0 rfl rfl (vp_in_nI (by omega) (by decide)) d_O_commit_195 (fun H locs hP hD hS => ?_)
      replace hP : va_P (dC, dI) vwCl (([(h0, .inr (7, [.int i_thrown, .int i_down, .int i_lasts, v_buffer, .int i_size, .int i_documents, v_gone, v_first, v_many, v_lengths, v_authors, v_sums, .ref hrow, v_made, .int i_madeSize, v_base, .int i_baseSize, v_text, .int i_textSize, .int i_textSteps, v_other, .int i_otherSize, .ref hpc, .int (nI n9), .int i_at, .int i_end, .int i_value])), (hrow, .inl (cB, 16384, .inl (upd ((cpw g fp b9 j)) (Int32.toNatClampNeg (nI (b9 + j))) (vp_nar .byte (x_3))))), (hpc, .inl (cB, 600, .inl (fp)))] : va_W) ++ pl) H := hP
      replace hD : va_D A (([(h0, .inr (7, [.int i_thrown, .int i_down, .int i_lasts, v_buffer, .int i_size, .int i_documents, v_gone, v_first, v_many, v_lengths, v_authors, v_sums, .ref hrow, v_made, .int i_madeSize, v_base, .int i_baseSize, v_text, .int i_textSize, .int i_textSteps, v_other, .int i_otherSize, .ref hpc, .int (nI n9), .int i_at, .int i_end, .int i_value])), (hrow, .inl (cB, 16384, .inl (upd ((cpw g fp b9 j)) (Int32.toNatClampNeg (nI (b9 + j))) (vp_nar .byte (x_3))))), (hpc, .inl (cB, 600, .inl (fp)))] : va_W) ++ pl) := hD
      have eS : upd ((cpw g fp b9 j)) (Int32.toNatClampNeg (nI (b9 + j))) (vp_nar .byte (x_3)) = cpw g fp b9 (j + 1) := by rw [nI_clamp (by omega), show vp_nar .byte x_3 = nbb x_3 from vp_nar_byte x_3, ex_3, nI_clamp (by omega)]; exact cpw_1
      rw [eS] at hP hD
      refine lv_iinc (v := nI (j + 1)) (lv' := [(6, .int (nI (j + 1))), (0, .ref h0), (1, .int (nI d9)), (2, .int a2), (3, .int (nI r9)), (4, .int (nI q9)), (5, .int (nI b9))]) hx hb d_O_commit_196 hl (k := 0) rfl (nI_1 j) (by decide) rfl (fun ls hl => ?_)
      refine lv_goto (tgt := 170) hx hb d_O_commit_199 (by decide) ?_
      exact ih (j + 1) hlt (by omega) _ _ hP hD hS ls (lv_sub hl [0, 1, 2, 3, 4, 5, 6] rfl)
