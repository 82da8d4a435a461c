set_option maxHeartbeats 4000000 in
set_option maxRecDepth 100000 in
theorem g_hasRoom (l : Launch) (dC : Nat → ClassId) (dI : Nat → Nat → Nat) (h0 : Nat) (hy : Value) (k : Nat) (n : Nat) (hk : k ≤ 256) (hn : n < 2 ^ 30) : Met l y_T_hasRoom k_T_hasRoom ({ frames := 0, cells := 0, slots := 0, locals := 0 } : Room) (va_Pc [.ref h0, .int (nI n)] (pc_R (dC, dI) [(h0, .inr (1, [hy, .int (nI k)]))] [])) (vp_Si (fun r => r = bI (decide (n + k ≤ 256)))) 0 0 (fun _ => False) := by
  refine Met.ofW (cc := prog_7_method_3_code) (maxL := 2) (ret := (some .boolean)) (by decide) rfl ?_
  intro p e s m args below meth c s₁ B hml hv
  obtain ⟨rfl, hP, hK, hN⟩ := hv
  have hx := B.exec
  have hb := B.bytes
  have hr := B.returns
  have hts := atoms_spec (ws := k_T_hasRoom) B.pre
  have hw0 : ∀ w ∈ w0, w.before _ s = true := fun w h => hts w (List.mem_cons_of_mem _ h)
  have hown : s.vm.findClass R_T = some m.cls := findClass_of_methodNamed B.named
  have hlocks := B.notSynchronized
  have hP : va_P (dC, dI) vwCl [(h0, .inr (1, [hy, .int (nI k)]))] s.heap := hP
  have hl := lv_entry ([.ref h0, .int (nI n)]) (n := 2) (Nat.le_of_ble_eq_true rfl)
  rw [lg_entry_eq]
  generalize (lg_sl ([.ref h0, .int (nI n)]) ++ List.replicate (2 - (lg_sl ([.ref h0, .int (nI n)])).length) Slot.unset).toArray = ls at hl ⊢
  have hl : lv_has ls 2 [(0, .ref h0), (1, .int (nI n))] := hl
  refine lv_iload_n hx hb d_T_hasRoom_0 rfl (lv_at hl 1 rfl) ?_
  refine lv_sipush (v := 256) hx hb d_T_hasRoom_1 (by decide +kernel) ?_
  refine lv_aload_n hx hb d_T_hasRoom_4 rfl (lv_at hl 0 rfl) ?_
  refine va_get (D := (dC, dI)) (ci := 1) (v := .int (nI k)) (C := R_T) (T := F_T) (N := 2) hx hb hw0 in_T hown hK hP 0 rfl rfl 1 (by decide) (hw0 (.fieldLink R_T 15 "TextKeeper$Text" "length" "I") (List.mem_of_getElem? (i := 62) rfl)) (fun _ h9 => h9) rfl d_T_hasRoom_5 ?_
  refine lv_isub hx hb d_T_hasRoom_8 ?_
  refine lv_topi (fun x_1 ex_1 => ?_)
  obtain rfl : x_1 = (nI (256 - k)) := by rw [ex_1]; exact (show (256 : Int32) - nI k = nI (256 - k) from pk_sub hk)
  clear ex_1
  refine lv_icmp_gt (tgt := 16) hx hb d_T_hasRoom_9 (by decide) (fun c_2 => ?_) (fun c_2 => ?_)
  · refine lv_iconst (v := 0) hx hb d_T_hasRoom_16 (by decide) ?_
    exact W.zret (v := 0) (ty := .boolean) hx hb hr rfl (fun t ht hW => ⟨0, rfl, (by have h9 := (nI_ltI (by omega) (by omega)).mp c_2; rw [bI, decide_eq_false (by omega)]; rfl), ht⟩) (fun q h => by cases h) d_T_hasRoom_17
  · refine lv_iconst (v := 1) hx hb d_T_hasRoom_12 (by decide) ?_
    refine lv_goto (tgt := 17) hx hb d_T_hasRoom_13 (by decide) ?_
    exact W.zret (v := 1) (ty := .boolean) hx hb hr rfl (fun t ht hW => ⟨1, rfl, (by have h9 := mt (nI_ltI (by omega) (by omega)).mpr c_2; rw [bI, decide_eq_true (by omega)]; rfl), ht⟩) (fun q h => by cases h) d_T_hasRoom_17
set_option maxHeartbeats 4000000 in
set_option maxRecDepth 100000 in
theorem g_byteAt (l : Launch) (dC : Nat → ClassId) (dI : Nat → Nat → Nat) (h0 : Nat) (hy : Nat) (cB : ClassId) (k : Nat) (f : Nat → Int32) (L : List Int32) (a1 : Int32) (htx : tx L k f) (hk : k ≤ 256) : Met l y_T_byteAt k_T_byteAt ({ frames := 0, cells := 0, slots := 0, locals := 0 } : Room) (va_Pc [.ref h0, .int a1] (pc_R (dC, dI) [(h0, .inr (1, [.ref hy, .int (nI k)])), (hy, .inl (cB, 256, .inl (f)))] [(cB, .byte)])) (vp_Si (fun r => r = bAt L a1)) 0 0 (fun _ => False) := by
  refine Met.ofW (cc := prog_7_method_2_code) (maxL := 2) (ret := (some .int)) (by decide) rfl ?_
  intro p e s m args below meth c s₁ B hml hv
  obtain ⟨rfl, hP, hK, hN⟩ := hv
  have hx := B.exec
  have hb := B.bytes
  have hr := B.returns
  have hts := atoms_spec (ws := k_T_byteAt) B.pre
  have hw0 : ∀ w ∈ w0, w.before _ s = true := fun w h => hts w (List.mem_cons_of_mem _ h)
  have hown : s.vm.findClass R_T = some m.cls := findClass_of_methodNamed B.named
  have hlocks := B.notSynchronized
  have hP : va_P (dC, dI) vwCl [(h0, .inr (1, [.ref hy, .int (nI k)])), (hy, .inl (cB, 256, .inl (f)))] s.heap := hP
  have hl := lv_entry ([.ref h0, .int a1]) (n := 2) (Nat.le_of_ble_eq_true rfl)
  rw [lg_entry_eq]
  generalize (lg_sl ([.ref h0, .int a1]) ++ List.replicate (2 - (lg_sl ([.ref h0, .int a1])).length) Slot.unset).toArray = ls at hl ⊢
  have hl : lv_has ls 2 [(0, .ref h0), (1, .int a1)] := hl
  refine lv_iload_n hx hb d_T_byteAt_0 rfl (lv_at hl 1 rfl) ?_
  refine lv_if_lt (tgt := 25) hx hb d_T_byteAt_1 (by decide) (fun c_1 => ?_) (fun c_1 => ?_)
  · refine lv_iconst (v := (-1)) hx hb d_T_byteAt_25 (by decide) ?_
    exact W.iret (v := (-1)) hx hb hr (fun t ht hW => ⟨(-1), rfl, (by rw [bAt, if_pos (Or.inl c_1)]), ht⟩) (fun q h => by cases h) d_T_byteAt_26
  · refine lv_iload_n hx hb d_T_byteAt_4 rfl (lv_at hl 1 rfl) ?_
    refine lv_aload_n hx hb d_T_byteAt_5 rfl (lv_at hl 0 rfl) ?_
    refine va_get (D := (dC, dI)) (ci := 1) (v := .int (nI k)) (C := R_T) (T := F_T) (N := 2) hx hb hw0 in_T hown hK hP 0 rfl rfl 1 (by decide) (hw0 (.fieldLink R_T 15 "TextKeeper$Text" "length" "I") (List.mem_of_getElem? (i := 62) rfl)) (fun _ h9 => h9) rfl d_T_byteAt_6 ?_
    refine lv_icmp_ge (tgt := 25) hx hb d_T_byteAt_9 (by decide) (fun c_2 => ?_) (fun c_2 => ?_)
    · refine lv_iconst (v := (-1)) hx hb d_T_byteAt_25 (by decide) ?_
      exact W.iret (v := (-1)) hx hb hr (fun t ht hW => ⟨(-1), rfl, (by rw [bAt, if_pos (Or.inr (by rw [htx.1]; exact c_2))]), ht⟩) (fun q h => by cases h) d_T_byteAt_26
    · refine lv_aload_n hx hb d_T_byteAt_12 rfl (lv_at hl 0 rfl) ?_
      refine va_get (D := (dC, dI)) (ci := 1) (v := .ref hy) (C := R_T) (T := F_T) (N := 2) hx hb hw0 in_T hown hK hP 0 rfl rfl 0 (by decide) (hw0 (.fieldLink R_T 9 "TextKeeper$Text" "bytes" "[B") (List.mem_of_getElem? (i := 61) rfl)) (fun _ h9 => h9) rfl d_T_byteAt_13 ?_
      refine lv_iload_n hx hb d_T_byteAt_16 rfl (lv_at hl 1 rfl) ?_
      refine va_bald hx hb hK hP 1 0 rfl rfl (x_inK hk (by decide) c_1 c_2) d_T_byteAt_17 ?_
      refine lv_topi (fun x_3 ex_3 => ?_)
      refine lv_sipush (v := 255) hx hb d_T_byteAt_18 (by decide +kernel) ?_
      refine lv_iand hx hb d_T_byteAt_21 ?_
      refine lv_topi (fun x_4 ex_4 => ?_)
      refine lv_goto (tgt := 26) hx hb d_T_byteAt_22 (by decide) ?_
      exact W.iret (v := x_4) hx hb hr (fun t ht hW => ⟨x_4, rfl, (by rw [bAt, if_neg (fun q => q.elim c_1 (fun q => c_2 (by rw [htx.1] at q; exact q))), ex_4, ex_3, tx_at htx (x_ltK c_1 c_2)]), ht⟩) (fun q h => by cases h) d_T_byteAt_26
set_option maxHeartbeats 4000000 in
set_option maxRecDepth 100000 in
theorem g_addByte (l : Launch) (dC : Nat → ClassId) (dI : Nat → Nat → Nat) (sz : Nat) (h0 : Nat) (hy : Nat) (cB : ClassId) (k : Nat) (f : Nat → Int32) (L : List Int32) (a1 : Int32) (htx : tx L k f) (hk : k < 256) : Met l y_T_addByte k_T_addByte ({ frames := 0, cells := 0, slots := 0, locals := 0 } : Room) (va_Pc [.ref h0, .int a1] (pc_E (dC, dI) [(h0, .inr (1, [.ref hy, .int (nI k)])), (hy, .inl (cB, 256, .inl (f)))] [(cB, .byte)] sz)) (va_Qv (fun (_ : Unit) => True) (fun (_ : Unit) t => ∃ (f2 : Nat → Int32), (tx (L ++ [nbb a1]) (k + 1) f2) ∧ at_E (dC, dI) (va_A [(h0, .inr (1, [.ref hy, .int (nI k)])), (hy, .inl (cB, 256, .inl (f)))] sz) [(h0, .inr (1, [.ref hy, .int (nI (k + 1))])), (hy, .inl (cB, 256, .inl (f2)))] [(cB, .byte)] t) (va_A [(h0, .inr (1, [.ref hy, .int (nI k)])), (hy, .inl (cB, 256, .inl (f)))] sz)) 0 0 (va_A [(h0, .inr (1, [.ref hy, .int (nI k)])), (hy, .inl (cB, 256, .inl (f)))] sz) := by
  refine Met.ofW (cc := prog_7_method_4_code) (maxL := 2) (ret := none) (by decide) rfl ?_
  intro p e s m args below meth c s₁ B hml hv
  obtain ⟨rfl, hsz, hP, hK, hD0, hN⟩ := hv
  have hx := B.exec
  have hb := B.bytes
  have hr := B.returns
  have hts := atoms_spec (ws := k_T_addByte) B.pre
  have hw0 : ∀ w ∈ w0, w.before _ s = true := fun w h => hts w (List.mem_cons_of_mem _ h)
  have hown : s.vm.findClass R_T = some m.cls := findClass_of_methodNamed B.named
  have hlocks := B.notSynchronized
  subst hsz
  have hD := hD0.self (sz := s.heap.size)
  generalize hAe : va_A [(h0, .inr (1, [.ref hy, .int (nI k)])), (hy, .inl (cB, 256, .inl (f)))] s.heap.size = A at hD ⊢
  have hA : ∀ q : Nat, s.heap.size ≤ q → A q := fun q h => by rw [← hAe]; exact Or.inr h
  have hS : va_S A s.heap s.heap [] := va_S.rf
  have hP : va_P (dC, dI) vwCl [(h0, .inr (1, [.ref hy, .int (nI k)])), (hy, .inl (cB, 256, .inl (f)))] s.heap := hP
  have hl := lv_entry ([.ref h0, .int a1]) (n := 2) (Nat.le_of_ble_eq_true rfl)
  rw [lg_entry_eq]
  generalize (lg_sl ([.ref h0, .int a1]) ++ List.replicate (2 - (lg_sl ([.ref h0, .int a1])).length) Slot.unset).toArray = ls at hl ⊢
  have hl : lv_has ls 2 [(0, .ref h0), (1, .int a1)] := hl
  refine lv_aload_n hx hb d_T_addByte_0 rfl (lv_at hl 0 rfl) ?_
  refine va_get (D := (dC, dI)) (ci := 1) (v := .int (nI k)) (C := R_T) (T := F_T) (N := 2) hx hb hw0 in_T hown hK hP 0 rfl rfl 1 (by decide) (hw0 (.fieldLink R_T 15 "TextKeeper$Text" "length" "I") (List.mem_of_getElem? (i := 62) rfl)) (fun _ h9 => h9) rfl d_T_addByte_1 ?_
  refine lv_sipush (v := 256) hx hb d_T_addByte_4 (by decide +kernel) ?_
  refine lv_icmp_ge (tgt := 31) hx hb d_T_addByte_7 (by decide) (fun c_1 => absurd c_1 (nI_ge hk (by decide))) (fun c_1 => ?_)
  refine lv_aload_n hx hb d_T_addByte_10 rfl (lv_at hl 0 rfl) ?_
  refine va_get (D := (dC, dI)) (ci := 1) (v := .ref hy) (C := R_T) (T := F_T) (N := 2) hx hb hw0 in_T hown hK hP 0 rfl rfl 0 (by decide) (hw0 (.fieldLink R_T 9 "TextKeeper$Text" "bytes" "[B") (List.mem_of_getElem? (i := 61) rfl)) (fun _ h9 => h9) rfl d_T_addByte_11 ?_
  refine lv_aload_n hx hb d_T_addByte_14 rfl (lv_at hl 0 rfl) ?_
  refine va_get (D := (dC, dI)) (ci := 1) (v := .int (nI k)) (C := R_T) (T := F_T) (N := 2) hx hb hw0 in_T hown hK hP 0 rfl rfl 1 (by decide) (hw0 (.fieldLink R_T 15 "TextKeeper$Text" "length" "I") (List.mem_of_getElem? (i := 62) rfl)) (fun _ h9 => h9) rfl d_T_addByte_15 ?_
  refine lv_iload_n hx hb d_T_addByte_18 rfl (lv_at hl 1 rfl) ?_
  obtain ⟨x_2, ex_2⟩ : ∃ y : Int32, a1.toInt8.toInt32 = y := ⟨_, rfl⟩
  refine lv_i2b (v := x_2) hx hb d_T_addByte_19 ex_2 ?_
  refine va_bast hx hb hK hP hD hS 1 0 rfl rfl (vp_in_nI hk (by decide)) d_T_addByte_20 (fun H locs hP hD hS => ?_)
  replace hP : va_P (dC, dI) vwCl [(h0, .inr (1, [.ref hy, .int (nI k)])), (hy, .inl (cB, 256, .inl (upd (f) (Int32.toNatClampNeg (nI k)) (vp_nar .byte (x_2)))))] H := hP
  replace hD : va_D A [(h0, .inr (1, [.ref hy, .int (nI k)])), (hy, .inl (cB, 256, .inl (upd (f) (Int32.toNatClampNeg (nI k)) (vp_nar .byte (x_2)))))] := hD
  have eS : upd (f) (Int32.toNatClampNeg (nI k)) (vp_nar .byte (x_2)) = upd f k (nbb a1) := by rw [nI_clamp (by omega), ← ex_2]; exact congrArg (upd f k) (pk_vb a1)
  rw [eS] at hP hD
  refine lv_aload_n hx hb d_T_addByte_21 rfl (lv_at hl 0 rfl) ?_
  refine lv_dup hx hb d_T_addByte_22 rfl ?_
  refine va_get (D := (dC, dI)) (ci := 1) (v := .int (nI k)) (C := R_T) (T := F_T) (N := 2) hx hb hw0 in_T hown hK hP 0 rfl rfl 1 (by decide) (hw0 (.fieldLink R_T 15 "TextKeeper$Text" "length" "I") (List.mem_of_getElem? (i := 62) rfl)) (fun _ h9 => h9) rfl d_T_addByte_23 ?_
  refine lv_iconst (v := 1) hx hb d_T_addByte_26 (by decide) ?_
  refine lv_iadd hx hb d_T_addByte_27 ?_
  refine lv_topi (fun x_3 ex_3 => ?_)
  obtain rfl : x_3 = (nI (k + 1)) := by rw [ex_3]; exact nI_1 k
  clear ex_3
  refine va_put (D := (dC, dI)) (ci := 1) (v := .int (nI (k + 1))) (ty := .int) (C := R_T) (T := F_T) (N := 2) hx hb hw0 in_T ft_T tk_T nk_T hown hK hP hD hS 0 rfl rfl 1 (by decide) (hw0 (.fieldLink R_T 15 "TextKeeper$Text" "length" "I") (List.mem_of_getElem? (i := 62) rfl)) (fun _ h9 => h9) rfl (by decide +kernel) rfl rfl (Nat.le_of_ble_eq_true rfl) d_T_addByte_28 (fun H locs hP hD hS => ?_)
  replace hP : va_P (dC, dI) vwCl [(h0, .inr (1, [.ref hy, .int (nI (k + 1))])), (hy, .inl (cB, 256, .inl ((upd f k (nbb a1)))))] H := hP
  replace hD : va_D A [(h0, .inr (1, [.ref hy, .int (nI (k + 1))])), (hy, .inl (cB, 256, .inl ((upd f k (nbb a1)))))] := hD
  have hP9 := hP.sub (ws' := [(h0, .inr (1, [.ref hy, .int (nI (k + 1))])), (hy, .inl (cB, 256, .inl ((upd f k (nbb a1)))))]) [0, 1] rfl
  have hD9 := hD.sub (ws' := [(h0, .inr (1, [.ref hy, .int (nI (k + 1))])), (hy, .inl (cB, 256, .inl ((upd f k (nbb a1)))))]) [0, 1] (by decide) rfl
  have hK9 := hK.sub (tys' := [(cB, .byte)]) [0] rfl
  exact W.vret hx hb hr (fun t ht hW => ⟨⟨(), rfl, trivial, (upd f k (nbb a1)), tx_push htx (nbb_B a1), by rw [ht]; exact hP9, va_K.moved hW.alike hK9, hD9⟩, hS.F ht⟩) hS.2.2 d_T_addByte_31
set_option maxHeartbeats 4000000 in
set_option maxRecDepth 100000 in
theorem g_addInt (l : Launch) (dC : Nat → ClassId) (dI : Nat → Nat → Nat) (sz : Nat) (h0 : Nat) (hy : Nat) (cB : ClassId) (k : Nat) (f : Nat → Int32) (L : List Int32) (a1 : Int32) (htx : tx L k f) (hk : k + 4 ≤ 256) : Met l y_T_addInt k_T_addInt ({ frames := 1, cells := 0, slots := 0, locals := 21 } : Room) (va_Pc [.ref h0, .int a1] (pc_E (dC, dI) [(h0, .inr (1, [.ref hy, .int (nI k)])), (hy, .inl (cB, 256, .inl (f)))] [(cB, .byte)] sz)) (va_Qv (fun (_ : Unit) => True) (fun (_ : Unit) t => ∃ (f2 : Nat → Int32), (tx (L ++ fb4 a1) (k + 4) f2) ∧ at_E (dC, dI) (va_A [(h0, .inr (1, [.ref hy, .int (nI k)])), (hy, .inl (cB, 256, .inl (f)))] sz) [(h0, .inr (1, [.ref hy, .int (nI (k + 4))])), (hy, .inl (cB, 256, .inl (f2)))] [(cB, .byte)] t) (va_A [(h0, .inr (1, [.ref hy, .int (nI k)])), (hy, .inl (cB, 256, .inl (f)))] sz)) 0 0 (va_A [(h0, .inr (1, [.ref hy, .int (nI k)])), (hy, .inl (cB, 256, .inl (f)))] sz) := by
  refine Met.ofW (cc := prog_7_method_5_code) (maxL := 3) (ret := none) (by decide) rfl ?_
  intro p e s m args below meth c s₁ B hml hv
  obtain ⟨rfl, hsz, hP, hK, hD0, hN⟩ := hv
  have hx := B.exec
  have hb := B.bytes
  have hr := B.returns
  have hts := atoms_spec (ws := k_T_addInt) B.pre
  have hw0 : ∀ w ∈ w0, w.before _ s = true := fun w h => hts w (List.mem_cons_of_mem _ h)
  have hown : s.vm.findClass R_T = some m.cls := findClass_of_methodNamed B.named
  have hlocks := B.notSynchronized
  subst hsz
  have hD := hD0.self (sz := s.heap.size)
  generalize hAe : va_A [(h0, .inr (1, [.ref hy, .int (nI k)])), (hy, .inl (cB, 256, .inl (f)))] s.heap.size = A at hD ⊢
  have hA : ∀ q : Nat, s.heap.size ≤ q → A q := fun q h => by rw [← hAe]; exact Or.inr h
  have hS : va_S A s.heap s.heap [] := va_S.rf
  have hP : va_P (dC, dI) vwCl [(h0, .inr (1, [.ref hy, .int (nI k)])), (hy, .inl (cB, 256, .inl (f)))] s.heap := hP
  have hl := lv_entry ([.ref h0, .int a1]) (n := 3) (Nat.le_of_ble_eq_true rfl)
  rw [lg_entry_eq]
  generalize (lg_sl ([.ref h0, .int a1]) ++ List.replicate (3 - (lg_sl ([.ref h0, .int a1])).length) Slot.unset).toArray = ls at hl ⊢
  have hl : lv_has ls 3 [(0, .ref h0), (1, .int a1)] := hl
  refine lv_bipush (v := 24) hx hb d_T_addInt_0 (by decide +kernel) ?_
  refine lv_istore_n (lv' := [(2, .int 24), (0, .ref h0), (1, .int a1)]) hx hb d_T_addInt_2 rfl hl (by decide) rfl (fun ls hl => ?_)
  refine lv_iload_n hx hb d_T_addInt_3 rfl (lv_at hl 0 rfl) ?_
  refine lv_if_lt (tgt := 20) hx hb d_T_addInt_4 (by decide) (fun h9 => absurd h9 (by decide +kernel)) (fun _ => ?_)
  refine lv_aload_n hx hb d_T_addInt_7 rfl (lv_at hl 1 rfl) ?_
  refine lv_iload_n hx hb d_T_addInt_8 rfl (lv_at hl 2 rfl) ?_
  refine lv_iload_n hx hb d_T_addInt_9 rfl (lv_at hl 0 rfl) ?_
  refine lv_ishr hx hb d_T_addInt_10 ?_
  have hPc := hP.sub (ws' := [(h0, .inr (1, [.ref hy, .int (nI k)])), (hy, .inl (cB, 256, .inl ((f))))]) [0, 1] rfl
  have hKc := hK.sub (tys' := [(cB, .byte)]) [0] rfl
  have hDc := hD.sub (ws' := [(h0, .inr (1, [.ref hy, .int (nI k)])), (hy, .inl (cB, 256, .inl ((f))))]) [0, 1] (by decide) rfl
  have hFc := va_free (wc := [(h0, .inr (1, [.ref hy, .int (nI k)])), (hy, .inl (cB, 256, .inl ((f))))]) hD hS hA [0, 1] rfl
  refine va_callv (va_runV (As := [.int (a1 >>> (24 &&& 31))]) (rest := []) ⟨hx, hb, hml, hown, hw0⟩ (g_addByte l dC dI s.heap.size h0 hy cB k (f) _ (a1 >>> (24 &&& 31)) (by first | assumption | decide | omega) (by first | assumption | decide | omega)) (cwV 1 hw0 (gd_V 108 109 110 69 111 rfl rfl rfl rfl rfl) rfl rfl rfl (by decide +kernel) ⟨by decide +kernel, by decide +kernel⟩) (prV_E hPc hKc hDc hN (va_recv hKc hPc (ci := 1) (q0 := 0) rfl rfl)) rfl rfl hl.1 rfl (lv_room (Nat.le_of_ble_eq_true rfl)) d_T_addInt_11 ⟨by decide +kernel, by decide +kernel⟩) hS (fun q _ h => hFc q h) hFc (fun u t H1 locs ht hvm hw hB hz1 hk1 hS => ?_)
  obtain ⟨f2_1, hu_2, hP1, hK1, hD1⟩ := hB
  rw [ht] at hP1
  have hK1 := va_K.moved hvm.symm hK1
  try dsimp only at hw
  obtain ⟨hP, hD⟩ := va_join (wr := []) (w1 := [(h0, .inr (1, [.ref hy, .int (nI (k + 1))])), (hy, .inl (cB, 256, .inl (f2_1)))]) hP hD [0, 1] [] rfl rfl (by decide) (by decide) hk1 hFc hP1 hD1
  generalize H1 = H at hP hS ⊢
  replace hP : va_P (dC, dI) vwCl [(h0, .inr (1, [.ref hy, .int (nI (k + 1))])), (hy, .inl (cB, 256, .inl (f2_1)))] H := hP
  replace hD : va_D A [(h0, .inr (1, [.ref hy, .int (nI (k + 1))])), (hy, .inl (cB, 256, .inl (f2_1)))] := hD
  replace hK : va_K (dC, dI) vwCl [(cB, .byte)] s := hK
  refine lv_iinc (v := 16) (lv' := [(2, .int 16), (0, .ref h0), (1, .int a1)]) hx hb d_T_addInt_14 hl (k := 0) rfl (by decide +kernel) (by decide) rfl (fun ls hl => ?_)
  refine lv_goto (tgt := 3) hx hb d_T_addInt_17 (by decide) ?_
  refine lv_iload_n hx hb d_T_addInt_3 rfl (lv_at hl 0 rfl) ?_
  refine lv_if_lt (tgt := 20) hx hb d_T_addInt_4 (by decide) (fun h9 => absurd h9 (by decide +kernel)) (fun _ => ?_)
  refine lv_aload_n hx hb d_T_addInt_7 rfl (lv_at hl 1 rfl) ?_
  refine lv_iload_n hx hb d_T_addInt_8 rfl (lv_at hl 2 rfl) ?_
  refine lv_iload_n hx hb d_T_addInt_9 rfl (lv_at hl 0 rfl) ?_
  refine lv_ishr hx hb d_T_addInt_10 ?_
  have hPc := hP.sub (ws' := [(h0, .inr (1, [.ref hy, .int (nI (k + 1))])), (hy, .inl (cB, 256, .inl ((f2_1))))]) [0, 1] rfl
  have hKc := hK.sub (tys' := [(cB, .byte)]) [0] rfl
  have hDc := hD.sub (ws' := [(h0, .inr (1, [.ref hy, .int (nI (k + 1))])), (hy, .inl (cB, 256, .inl ((f2_1))))]) [0, 1] (by decide) rfl
  have hFc := va_free (wc := [(h0, .inr (1, [.ref hy, .int (nI (k + 1))])), (hy, .inl (cB, 256, .inl ((f2_1))))]) hD hS hA [0, 1] rfl
  refine va_callv (va_runV (As := [.int (a1 >>> (16 &&& 31))]) (rest := []) ⟨hx, hb, hml, hown, hw0⟩ (g_addByte l dC dI H.size h0 hy cB (k + 1) (f2_1) _ (a1 >>> (16 &&& 31)) (by first | assumption | decide | omega) (by first | assumption | decide | omega)) (cwV 1 hw0 (gd_V 108 109 110 69 111 rfl rfl rfl rfl rfl) rfl rfl rfl (by decide +kernel) ⟨by decide +kernel, by decide +kernel⟩) (prV_E hPc hKc hDc hN (va_recv hKc hPc (ci := 1) (q0 := 0) rfl rfl)) rfl rfl hl.1 rfl (lv_room (Nat.le_of_ble_eq_true rfl)) d_T_addInt_11 ⟨by decide +kernel, by decide +kernel⟩) hS (fun q _ h => hFc q h) hFc (fun u t H1 locs ht hvm hw hB hz1 hk1 hS => ?_)
  obtain ⟨f2_3, hu_4, hP1, hK1, hD1⟩ := hB
  rw [ht] at hP1
  have hK1 := va_K.moved hvm.symm hK1
  try dsimp only at hw
  obtain ⟨hP, hD⟩ := va_join (wr := []) (w1 := [(h0, .inr (1, [.ref hy, .int (nI ((k + 1) + 1))])), (hy, .inl (cB, 256, .inl (f2_3)))]) hP hD [0, 1] [] rfl rfl (by decide) (by decide) hk1 hFc hP1 hD1
  generalize H1 = H at hP hS ⊢
  replace hP : va_P (dC, dI) vwCl [(h0, .inr (1, [.ref hy, .int (nI ((k + 1) + 1))])), (hy, .inl (cB, 256, .inl (f2_3)))] H := hP
  replace hD : va_D A [(h0, .inr (1, [.ref hy, .int (nI ((k + 1) + 1))])), (hy, .inl (cB, 256, .inl (f2_3)))] := hD
  replace hK : va_K (dC, dI) vwCl [(cB, .byte)] s := hK
  refine lv_iinc (v := 8) (lv' := [(2, .int 8), (0, .ref h0), (1, .int a1)]) hx hb d_T_addInt_14 hl (k := 0) rfl (by decide +kernel) (by decide) rfl (fun ls hl => ?_)
  refine lv_goto (tgt := 3) hx hb d_T_addInt_17 (by decide) ?_
  refine lv_iload_n hx hb d_T_addInt_3 rfl (lv_at hl 0 rfl) ?_
  refine lv_if_lt (tgt := 20) hx hb d_T_addInt_4 (by decide) (fun h9 => absurd h9 (by decide +kernel)) (fun _ => ?_)
  refine lv_aload_n hx hb d_T_addInt_7 rfl (lv_at hl 1 rfl) ?_
  refine lv_iload_n hx hb d_T_addInt_8 rfl (lv_at hl 2 rfl) ?_
  refine lv_iload_n hx hb d_T_addInt_9 rfl (lv_at hl 0 rfl) ?_
  refine lv_ishr hx hb d_T_addInt_10 ?_
  have hPc := hP.sub (ws' := [(h0, .inr (1, [.ref hy, .int (nI ((k + 1) + 1))])), (hy, .inl (cB, 256, .inl ((f2_3))))]) [0, 1] rfl
  have hKc := hK.sub (tys' := [(cB, .byte)]) [0] rfl
  have hDc := hD.sub (ws' := [(h0, .inr (1, [.ref hy, .int (nI ((k + 1) + 1))])), (hy, .inl (cB, 256, .inl ((f2_3))))]) [0, 1] (by decide) rfl
  have hFc := va_free (wc := [(h0, .inr (1, [.ref hy, .int (nI ((k + 1) + 1))])), (hy, .inl (cB, 256, .inl ((f2_3))))]) hD hS hA [0, 1] rfl
  refine va_callv (va_runV (As := [.int (a1 >>> (8 &&& 31))]) (rest := []) ⟨hx, hb, hml, hown, hw0⟩ (g_addByte l dC dI H.size h0 hy cB ((k + 1) + 1) (f2_3) _ (a1 >>> (8 &&& 31)) (by first | assumption | decide | omega) (by first | assumption | decide | omega)) (cwV 1 hw0 (gd_V 108 109 110 69 111 rfl rfl rfl rfl rfl) rfl rfl rfl (by decide +kernel) ⟨by decide +kernel, by decide +kernel⟩) (prV_E hPc hKc hDc hN (va_recv hKc hPc (ci := 1) (q0 := 0) rfl rfl)) rfl rfl hl.1 rfl (lv_room (Nat.le_of_ble_eq_true rfl)) d_T_addInt_11 ⟨by decide +kernel, by decide +kernel⟩) hS (fun q _ h => hFc q h) hFc (fun u t H1 locs ht hvm hw hB hz1 hk1 hS => ?_)
  obtain ⟨f2_5, hu_6, hP1, hK1, hD1⟩ := hB
  rw [ht] at hP1
  have hK1 := va_K.moved hvm.symm hK1
  try dsimp only at hw
  obtain ⟨hP, hD⟩ := va_join (wr := []) (w1 := [(h0, .inr (1, [.ref hy, .int (nI (((k + 1) + 1) + 1))])), (hy, .inl (cB, 256, .inl (f2_5)))]) hP hD [0, 1] [] rfl rfl (by decide) (by decide) hk1 hFc hP1 hD1
  generalize H1 = H at hP hS ⊢
  replace hP : va_P (dC, dI) vwCl [(h0, .inr (1, [.ref hy, .int (nI (((k + 1) + 1) + 1))])), (hy, .inl (cB, 256, .inl (f2_5)))] H := hP
  replace hD : va_D A [(h0, .inr (1, [.ref hy, .int (nI (((k + 1) + 1) + 1))])), (hy, .inl (cB, 256, .inl (f2_5)))] := hD
  replace hK : va_K (dC, dI) vwCl [(cB, .byte)] s := hK
  refine lv_iinc (v := 0) (lv' := [(2, .int 0), (0, .ref h0), (1, .int a1)]) hx hb d_T_addInt_14 hl (k := 0) rfl (by decide +kernel) (by decide) rfl (fun ls hl => ?_)
  refine lv_goto (tgt := 3) hx hb d_T_addInt_17 (by decide) ?_
  refine lv_iload_n hx hb d_T_addInt_3 rfl (lv_at hl 0 rfl) ?_
  refine lv_if_lt (tgt := 20) hx hb d_T_addInt_4 (by decide) (fun h9 => absurd h9 (by decide +kernel)) (fun _ => ?_)
  refine lv_aload_n hx hb d_T_addInt_7 rfl (lv_at hl 1 rfl) ?_
  refine lv_iload_n hx hb d_T_addInt_8 rfl (lv_at hl 2 rfl) ?_
  refine lv_iload_n hx hb d_T_addInt_9 rfl (lv_at hl 0 rfl) ?_
  refine lv_ishr hx hb d_T_addInt_10 ?_
  have hPc := hP.sub (ws' := [(h0, .inr (1, [.ref hy, .int (nI (((k + 1) + 1) + 1))])), (hy, .inl (cB, 256, .inl ((f2_5))))]) [0, 1] rfl
  have hKc := hK.sub (tys' := [(cB, .byte)]) [0] rfl
  have hDc := hD.sub (ws' := [(h0, .inr (1, [.ref hy, .int (nI (((k + 1) + 1) + 1))])), (hy, .inl (cB, 256, .inl ((f2_5))))]) [0, 1] (by decide) rfl
  have hFc := va_free (wc := [(h0, .inr (1, [.ref hy, .int (nI (((k + 1) + 1) + 1))])), (hy, .inl (cB, 256, .inl ((f2_5))))]) hD hS hA [0, 1] rfl
  refine va_callv (va_runV (As := [.int (a1 >>> (0 &&& 31))]) (rest := []) ⟨hx, hb, hml, hown, hw0⟩ (g_addByte l dC dI H.size h0 hy cB (((k + 1) + 1) + 1) (f2_5) _ (a1 >>> (0 &&& 31)) (by first | assumption | decide | omega) (by first | assumption | decide | omega)) (cwV 1 hw0 (gd_V 108 109 110 69 111 rfl rfl rfl rfl rfl) rfl rfl rfl (by decide +kernel) ⟨by decide +kernel, by decide +kernel⟩) (prV_E hPc hKc hDc hN (va_recv hKc hPc (ci := 1) (q0 := 0) rfl rfl)) rfl rfl hl.1 rfl (lv_room (Nat.le_of_ble_eq_true rfl)) d_T_addInt_11 ⟨by decide +kernel, by decide +kernel⟩) hS (fun q _ h => hFc q h) hFc (fun u t H1 locs ht hvm hw hB hz1 hk1 hS => ?_)
  obtain ⟨f2_7, hu_8, hP1, hK1, hD1⟩ := hB
  rw [ht] at hP1
  have hK1 := va_K.moved hvm.symm hK1
  try dsimp only at hw
  obtain ⟨hP, hD⟩ := va_join (wr := []) (w1 := [(h0, .inr (1, [.ref hy, .int (nI ((((k + 1) + 1) + 1) + 1))])), (hy, .inl (cB, 256, .inl (f2_7)))]) hP hD [0, 1] [] rfl rfl (by decide) (by decide) hk1 hFc hP1 hD1
  generalize H1 = H at hP hS ⊢
  replace hP : va_P (dC, dI) vwCl [(h0, .inr (1, [.ref hy, .int (nI ((((k + 1) + 1) + 1) + 1))])), (hy, .inl (cB, 256, .inl (f2_7)))] H := hP
  replace hD : va_D A [(h0, .inr (1, [.ref hy, .int (nI ((((k + 1) + 1) + 1) + 1))])), (hy, .inl (cB, 256, .inl (f2_7)))] := hD
  replace hK : va_K (dC, dI) vwCl [(cB, .byte)] s := hK
  refine lv_iinc (v := (-8)) (lv' := [(2, .int (-8)), (0, .ref h0), (1, .int a1)]) hx hb d_T_addInt_14 hl (k := 0) rfl (by decide +kernel) (by decide) rfl (fun ls hl => ?_)
  refine lv_goto (tgt := 3) hx hb d_T_addInt_17 (by decide) ?_
  refine lv_iload_n hx hb d_T_addInt_3 rfl (lv_at hl 0 rfl) ?_
  refine lv_if_lt (tgt := 20) hx hb d_T_addInt_4 (by decide) (fun _ => ?_) (fun h9 => absurd h9 (by decide +kernel))
  have hP9 := hP.sub (ws' := [(h0, .inr (1, [.ref hy, .int (nI (k + 4))])), (hy, .inl (cB, 256, .inl (f2_7)))]) [0, 1] rfl
  have hD9 := hD.sub (ws' := [(h0, .inr (1, [.ref hy, .int (nI (k + 4))])), (hy, .inl (cB, 256, .inl (f2_7)))]) [0, 1] (by decide) rfl
  have hK9 := hK.sub (tys' := [(cB, .byte)]) [0] rfl
  exact W.vret hx hb hr (fun t ht hW => ⟨⟨(), rfl, trivial, f2_7, (by have h9 := hu_8; simp only [List.append_assoc, List.cons_append, List.nil_append] at h9; exact h9), by rw [ht]; exact hP9, va_K.moved hW.alike hK9, hD9⟩, hS.F ht⟩) hS.2.2 d_T_addInt_20
set_option maxHeartbeats 4000000 in
set_option maxRecDepth 100000 in
theorem g_shorten_T (l : Launch) (dC : Nat → ClassId) (dI : Nat → Nat → Nat) (sz : Nat) (h0 : Nat) (hy : Nat) (cB : ClassId) (k : Nat) (f : Nat → Int32) (L : List Int32) (n : Nat) (htx : tx L k f) (hk : k ≤ 256) (hn : n ≤ k) : Met l y_T_shorten k_T_shorten ({ frames := 0, cells := 0, slots := 0, locals := 0 } : Room) (va_Pc [.ref h0, .int (nI n)] (pc_E (dC, dI) [(h0, .inr (1, [.ref hy, .int (nI k)])), (hy, .inl (cB, 256, .inl (f)))] [(cB, .byte)] sz)) (va_Qi (fun (r : Int32) (_ : Unit) => r = 1) (fun (_ : Unit) t => (tx (L.take n) n f) ∧ at_E (dC, dI) (va_A [(h0, .inr (1, [.ref hy, .int (nI k)])), (hy, .inl (cB, 256, .inl (f)))] sz) [(h0, .inr (1, [.ref hy, .int (nI n)])), (hy, .inl (cB, 256, .inl (f)))] [(cB, .byte)] t) (va_A [(h0, .inr (1, [.ref hy, .int (nI k)])), (hy, .inl (cB, 256, .inl (f)))] sz)) 0 0 (va_A [(h0, .inr (1, [.ref hy, .int (nI k)])), (hy, .inl (cB, 256, .inl (f)))] sz) := by
  refine Met.ofW (cc := prog_7_method_6_code) (maxL := 2) (ret := (some .boolean)) (by decide) rfl ?_
  intro p e s m args below meth c s₁ B hml hv
  obtain ⟨rfl, hsz, hP, hK, hD0, hN⟩ := hv
  have hx := B.exec
  have hb := B.bytes
  have hr := B.returns
  have hts := atoms_spec (ws := k_T_shorten) B.pre
  have hw0 : ∀ w ∈ w0, w.before _ s = true := fun w h => hts w (List.mem_cons_of_mem _ h)
  have hown : s.vm.findClass R_T = some m.cls := findClass_of_methodNamed B.named
  have hlocks := B.notSynchronized
  subst hsz
  have hD := hD0.self (sz := s.heap.size)
  generalize hAe : va_A [(h0, .inr (1, [.ref hy, .int (nI k)])), (hy, .inl (cB, 256, .inl (f)))] s.heap.size = A at hD ⊢
  have hA : ∀ q : Nat, s.heap.size ≤ q → A q := fun q h => by rw [← hAe]; exact Or.inr h
  have hS : va_S A s.heap s.heap [] := va_S.rf
  have hP : va_P (dC, dI) vwCl [(h0, .inr (1, [.ref hy, .int (nI k)])), (hy, .inl (cB, 256, .inl (f)))] s.heap := hP
  have hl := lv_entry ([.ref h0, .int (nI n)]) (n := 2) (Nat.le_of_ble_eq_true rfl)
  rw [lg_entry_eq]
  generalize (lg_sl ([.ref h0, .int (nI n)]) ++ List.replicate (2 - (lg_sl ([.ref h0, .int (nI n)])).length) Slot.unset).toArray = ls at hl ⊢
  have hl : lv_has ls 2 [(0, .ref h0), (1, .int (nI n))] := hl
  refine lv_iload_n hx hb d_T_shorten_0 rfl (lv_at hl 1 rfl) ?_
  refine lv_if_lt (tgt := 12) hx hb d_T_shorten_1 (by decide) (fun c_1 => absurd c_1 (nI_pos (by omega))) (fun c_1 => ?_)
  refine lv_iload_n hx hb d_T_shorten_4 rfl (lv_at hl 1 rfl) ?_
  refine lv_aload_n hx hb d_T_shorten_5 rfl (lv_at hl 0 rfl) ?_
  refine va_get (D := (dC, dI)) (ci := 1) (v := .int (nI k)) (C := R_T) (T := F_T) (N := 2) hx hb hw0 in_T hown hK hP 0 rfl rfl 1 (by decide) (hw0 (.fieldLink R_T 15 "TextKeeper$Text" "length" "I") (List.mem_of_getElem? (i := 62) rfl)) (fun _ h9 => h9) rfl d_T_shorten_6 ?_
  refine lv_icmp_le (tgt := 14) hx hb d_T_shorten_9 (by decide) (fun c_2 => ?_) (fun c_2 => absurd (nI_le hn (by omega)) c_2)
  refine lv_aload_n hx hb d_T_shorten_14 rfl (lv_at hl 0 rfl) ?_
  refine lv_iload_n hx hb d_T_shorten_15 rfl (lv_at hl 1 rfl) ?_
  refine va_put (D := (dC, dI)) (ci := 1) (v := .int (nI n)) (ty := .int) (C := R_T) (T := F_T) (N := 2) hx hb hw0 in_T ft_T tk_T nk_T hown hK hP hD hS 0 rfl rfl 1 (by decide) (hw0 (.fieldLink R_T 15 "TextKeeper$Text" "length" "I") (List.mem_of_getElem? (i := 62) rfl)) (fun _ h9 => h9) rfl (by decide +kernel) rfl rfl (Nat.le_of_ble_eq_true rfl) d_T_shorten_16 (fun H locs hP hD hS => ?_)
  replace hP : va_P (dC, dI) vwCl [(h0, .inr (1, [.ref hy, .int (nI n)])), (hy, .inl (cB, 256, .inl (f)))] H := hP
  replace hD : va_D A [(h0, .inr (1, [.ref hy, .int (nI n)])), (hy, .inl (cB, 256, .inl (f)))] := hD
  refine lv_iconst (v := 1) hx hb d_T_shorten_19 (by decide) ?_
  have hP9 := hP.sub (ws' := [(h0, .inr (1, [.ref hy, .int (nI n)])), (hy, .inl (cB, 256, .inl (f)))]) [0, 1] rfl
  have hD9 := hD.sub (ws' := [(h0, .inr (1, [.ref hy, .int (nI n)])), (hy, .inl (cB, 256, .inl (f)))]) [0, 1] (by decide) rfl
  have hK9 := hK.sub (tys' := [(cB, .byte)]) [0] rfl
  exact W.zret (v := 1) (ty := .boolean) hx hb hr rfl (fun t ht hW => ⟨⟨1, (), rfl, rfl, tx_take htx hn, by rw [ht]; exact hP9, va_K.moved hW.alike hK9, hD9⟩, hS.F ht⟩) hS.2.2 d_T_shorten_20
set_option maxHeartbeats 4000000 in
set_option maxRecDepth 100000 in
theorem g_shorten_F (l : Launch) (dC : Nat → ClassId) (dI : Nat → Nat → Nat) (h0 : Nat) (hy : Nat) (cB : ClassId) (k : Nat) (f : Nat → Int32) (a1 : Int32) (hn : a1 < 0 ∨ nI k < a1) : Met l y_T_shorten k_T_shorten ({ frames := 0, cells := 0, slots := 0, locals := 0 } : Room) (va_Pc [.ref h0, .int a1] (pc_R (dC, dI) [(h0, .inr (1, [.ref hy, .int (nI k)])), (hy, .inl (cB, 256, .inl (f)))] [(cB, .byte)])) (vp_Si (fun r => r = 0)) 0 0 (fun _ => False) := by
  refine Met.ofW (cc := prog_7_method_6_code) (maxL := 2) (ret := (some .boolean)) (by decide) rfl ?_
  intro p e s m args below meth c s₁ B hml hv
  obtain ⟨rfl, hP, hK, hN⟩ := hv
  have hx := B.exec
  have hb := B.bytes
  have hr := B.returns
  have hts := atoms_spec (ws := k_T_shorten) B.pre
  have hw0 : ∀ w ∈ w0, w.before _ s = true := fun w h => hts w (List.mem_cons_of_mem _ h)
  have hown : s.vm.findClass R_T = some m.cls := findClass_of_methodNamed B.named
  have hlocks := B.notSynchronized
  have hP : va_P (dC, dI) vwCl [(h0, .inr (1, [.ref hy, .int (nI k)])), (hy, .inl (cB, 256, .inl (f)))] s.heap := hP
  have hl := lv_entry ([.ref h0, .int a1]) (n := 2) (Nat.le_of_ble_eq_true rfl)
  rw [lg_entry_eq]
  generalize (lg_sl ([.ref h0, .int a1]) ++ List.replicate (2 - (lg_sl ([.ref h0, .int a1])).length) Slot.unset).toArray = ls at hl ⊢
  have hl : lv_has ls 2 [(0, .ref h0), (1, .int a1)] := hl
  refine lv_iload_n hx hb d_T_shorten_0 rfl (lv_at hl 1 rfl) ?_
  refine lv_if_lt (tgt := 12) hx hb d_T_shorten_1 (by decide) (fun c_1 => ?_) (fun c_1 => ?_)
  · refine lv_iconst (v := 0) hx hb d_T_shorten_12 (by decide) ?_
    exact W.zret (v := 0) (ty := .boolean) hx hb hr rfl (fun t ht hW => ⟨0, rfl, rfl, ht⟩) (fun q h => by cases h) d_T_shorten_13
  · refine lv_iload_n hx hb d_T_shorten_4 rfl (lv_at hl 1 rfl) ?_
    refine lv_aload_n hx hb d_T_shorten_5 rfl (lv_at hl 0 rfl) ?_
    refine va_get (D := (dC, dI)) (ci := 1) (v := .int (nI k)) (C := R_T) (T := F_T) (N := 2) hx hb hw0 in_T hown hK hP 0 rfl rfl 1 (by decide) (hw0 (.fieldLink R_T 15 "TextKeeper$Text" "length" "I") (List.mem_of_getElem? (i := 62) rfl)) (fun _ h9 => h9) rfl d_T_shorten_6 ?_
    refine lv_icmp_le (tgt := 14) hx hb d_T_shorten_9 (by decide) (fun c_2 => absurd c_2 (fun h9 => hn.elim (fun h => c_1 h) (fun h => Int32.not_le.mpr h h9))) (fun c_2 => ?_)
    refine lv_iconst (v := 0) hx hb d_T_shorten_12 (by decide) ?_
    exact W.zret (v := 0) (ty := .boolean) hx hb hr rfl (fun t ht hW => ⟨0, rfl, rfl, ht⟩) (fun q h => by cases h) d_T_shorten_13
set_option maxHeartbeats 4000000 in
set_option maxRecDepth 100000 in
theorem lq_sum {p : Program} {l : Launch} {e : Env} {s : State} {m : MethodId} {args : Array Value} {below : List Frame} {meth : Method} {c : Code} {dC : Nat → ClassId} {dI : Nat → Nat → Nat} {A : Nat → Prop} {Q : State → Prop} (h0 : Nat) (hy : Nat) (cB : ClassId) (k : Nat) (f : Nat → Int32) (L : List Int32) (htx : tx L k f) (hk : k ≤ 256)
    (hx : p.tables.exec = Jvm.exec) (hb : c.code = prog_7_method_8_code) (hml : c.maxLocals = 3) (hown : s.vm.findClass R_T = some m.cls) (hw0 : ∀ w ∈ w0, w.before args s = true) (hN : nw_ok s) (hK : va_K (dC, dI) vwCl [(cB, .byte)] s) (hA : ∀ q : Nat, s.heap.size ≤ q → A q)
    (kk : ∀ (H : Heap) (locs : List Loc), va_P (dC, dI) vwCl [(h0, .inr (1, [.ref hy, .int (nI k)])), (hy, .inl (cB, 256, .inl (f)))] H → va_D A [(h0, .inr (1, [.ref hy, .int (nI k)])), (hy, .inl (cB, 256, .inl (f)))] → va_S A s.heap H locs → ∀ ls : Array Slot, lv_has ls 3 [(2, .int (nI k)), (1, .int (sumL (L.take k))), (0, .ref h0)] → W p l e ({ frames := 0, cells := 0, slots := 0, locals := 0 } : Room) s m args below meth c H locs 0 0 Q (F0 m 36 ls [])) :
    ∀ (n j : Nat), j ≤ k → k < j + n → ∀ (H : Heap) (locs : List Loc), va_P (dC, dI) vwCl [(h0, .inr (1, [.ref hy, .int (nI k)])), (hy, .inl (cB, 256, .inl (f)))] H → va_D A [(h0, .inr (1, [.ref hy, .int (nI k)])), (hy, .inl (cB, 256, .inl (f)))] → va_S A s.heap H locs → ∀ ls : Array Slot, lv_has ls 3 [(2, .int (nI j)), (1, .int (sumL (L.take j))), (0, .ref h0)] → W p l e ({ frames := 0, cells := 0, slots := 0, locals := 0 } : Room) s m args below meth c H locs 0 0 Q (F0 m 4 ls []) := by
  intro n
  induction n with
  | zero => intro j h1 h2; exact absurd h2 (by omega)
  | succ n ih =>
    intro j hj hn   H locs hP hD hS ls hl
    refine lv_iload_n hx hb d_T_sum_4 rfl (lv_at hl 0 rfl) ?_
    refine lv_aload_n hx hb d_T_sum_5 rfl (lv_at hl 2 rfl) ?_
    refine va_get (D := (dC, dI)) (ci := 1) (v := .int (nI k)) (C := R_T) (T := F_T) (N := 2) hx hb hw0 in_T hown hK hP 0 rfl rfl 1 (by decide) (hw0 (.fieldLink R_T 15 "TextKeeper$Text" "length" "I") (List.mem_of_getElem? (i := 62) rfl)) (fun _ h9 => h9) rfl d_T_sum_6 ?_
    refine lv_icmp_ge (tgt := 36) hx hb d_T_sum_9 (by decide) (fun c_1 => ?_) (fun c_1 => ?_)
    · obtain rfl : j = k := x_geN (by omega) hj c_1
      exact kk _ _ hP hD hS ls (lv_sub hl [0, 1, 2] rfl)
    · have hlt : j < k := x_ltN (by omega) hj c_1
      refine lv_iload_n hx hb d_T_sum_12 rfl (lv_at hl 1 rfl) ?_
      refine lv_bipush (v := 31) hx hb d_T_sum_13 (by decide +kernel) ?_
      refine lv_imul hx hb d_T_sum_15 ?_
      refine lv_topi (fun x_2 ex_2 => ?_)
      refine lv_aload_n hx hb d_T_sum_16 rfl (lv_at hl 2 rfl) ?_
      refine va_get (D := (dC, dI)) (ci := 1) (v := .ref hy) (C := R_T) (T := F_T) (N := 2) hx hb hw0 in_T hown hK hP 0 rfl rfl 0 (by decide) (hw0 (.fieldLink R_T 9 "TextKeeper$Text" "bytes" "[B") (List.mem_of_getElem? (i := 61) rfl)) (fun _ h9 => h9) rfl d_T_sum_17 ?_
      refine lv_iload_n hx hb d_T_sum_20 rfl (lv_at hl 0 rfl) ?_
      refine va_bald hx hb hK hP 1 0 rfl rfl (vp_in_nI (by omega) (by decide)) d_T_sum_21 ?_
      refine lv_topi (fun x_3 ex_3 => ?_)
      refine lv_sipush (v := 255) hx hb d_T_sum_22 (by decide +kernel) ?_
      refine lv_iand hx hb d_T_sum_25 ?_
      refine lv_topi (fun x_4 ex_4 => ?_)
      refine lv_iadd hx hb d_T_sum_26 ?_
      refine lv_topi (fun x_5 ex_5 => ?_)
      refine lv_iconst (v := 1) hx hb d_T_sum_27 (by decide) ?_
      refine lv_iadd hx hb d_T_sum_28 ?_
      refine lv_topi (fun x_6 ex_6 => ?_)
      obtain rfl : x_6 = (sumL (L.take (j + 1))) := by rw [ex_6, ex_5, ex_2, ex_4, ex_3]; rw [sumL_take (by rw [htx.1]; exact hlt), nI_clamp (by omega), tx_at htx hlt]
      clear ex_6
      refine lv_istore_n (lv' := [(1, .int (sumL (L.take (j + 1)))), (2, .int (nI j)), (0, .ref h0)]) hx hb d_T_sum_29 rfl hl (by decide) rfl (fun ls hl => ?_)
      refine lv_iinc (v := nI (j + 1)) (lv' := [(2, .int (nI (j + 1))), (1, .int (sumL (L.take (j + 1)))), (0, .ref h0)]) hx hb d_T_sum_30 hl (k := 1) rfl (nI_1 j) (by decide) rfl (fun ls hl => ?_)
      refine lv_goto (tgt := 4) hx hb d_T_sum_33 (by decide) ?_
      exact ih (j + 1) hlt (by omega) _ _ hP hD hS ls (lv_sub hl [0, 1, 2] rfl)
set_option maxHeartbeats 4000000 in
set_option maxRecDepth 100000 in
theorem g_sum (l : Launch) (dC : Nat → ClassId) (dI : Nat → Nat → Nat) (sz : Nat) (h0 : Nat) (hy : Nat) (cB : ClassId) (k : Nat) (f : Nat → Int32) (L : List Int32) (htx : tx L k f) (hk : k ≤ 256) : Met l y_T_sum k_T_sum ({ frames := 0, cells := 0, slots := 0, locals := 0 } : Room) (va_Pc [.ref h0] (pc_E (dC, dI) [(h0, .inr (1, [.ref hy, .int (nI k)])), (hy, .inl (cB, 256, .inl (f)))] [(cB, .byte)] sz)) (va_Qi (fun (r : Int32) (_ : Unit) => r = sumL L) (fun (_ : Unit) t => at_E (dC, dI) (va_A [(h0, .inr (1, [.ref hy, .int (nI k)])), (hy, .inl (cB, 256, .inl (f)))] sz) [(h0, .inr (1, [.ref hy, .int (nI k)])), (hy, .inl (cB, 256, .inl (f)))] [(cB, .byte)] t) (va_A [(h0, .inr (1, [.ref hy, .int (nI k)])), (hy, .inl (cB, 256, .inl (f)))] sz)) 0 0 (va_A [(h0, .inr (1, [.ref hy, .int (nI k)])), (hy, .inl (cB, 256, .inl (f)))] sz) := by
  refine Met.ofW (cc := prog_7_method_8_code) (maxL := 3) (ret := (some .int)) (by decide) rfl ?_
  intro p e s m args below meth c s₁ B hml hv
  obtain ⟨rfl, hsz, hP, hK, hD0, hN⟩ := hv
  have hx := B.exec
  have hb := B.bytes
  have hr := B.returns
  have hts := atoms_spec (ws := k_T_sum) B.pre
  have hw0 : ∀ w ∈ w0, w.before _ s = true := fun w h => hts w (List.mem_cons_of_mem _ h)
  have hown : s.vm.findClass R_T = some m.cls := findClass_of_methodNamed B.named
  have hlocks := B.notSynchronized
  subst hsz
  have hD := hD0.self (sz := s.heap.size)
  generalize hAe : va_A [(h0, .inr (1, [.ref hy, .int (nI k)])), (hy, .inl (cB, 256, .inl (f)))] s.heap.size = A at hD ⊢
  have hA : ∀ q : Nat, s.heap.size ≤ q → A q := fun q h => by rw [← hAe]; exact Or.inr h
  have hS : va_S A s.heap s.heap [] := va_S.rf
  have hP : va_P (dC, dI) vwCl [(h0, .inr (1, [.ref hy, .int (nI k)])), (hy, .inl (cB, 256, .inl (f)))] s.heap := hP
  have hl := lv_entry ([.ref h0]) (n := 3) (Nat.le_of_ble_eq_true rfl)
  rw [lg_entry_eq]
  generalize (lg_sl ([.ref h0]) ++ List.replicate (3 - (lg_sl ([.ref h0])).length) Slot.unset).toArray = ls at hl ⊢
  have hl : lv_has ls 3 [(0, .ref h0)] := hl
  refine lv_iconst (v := 0) hx hb d_T_sum_0 (by decide) ?_
  refine lv_istore_n (lv' := [(1, .int 0), (0, .ref h0)]) hx hb d_T_sum_1 rfl hl (by decide) rfl (fun ls hl => ?_)
  refine lv_iconst (v := 0) hx hb d_T_sum_2 (by decide) ?_
  refine lv_istore_n (lv' := [(2, .int 0), (1, .int 0), (0, .ref h0)]) hx hb d_T_sum_3 rfl hl (by decide) rfl (fun ls hl => ?_)
  have hP8 := hP
  have hD8 := hD
  have hK8 := hK
  refine lq_sum h0 hy cB k f L htx hk hx hb hml hown hw0 hN hK8 hA (fun H locs hP hD hS ls hl => ?_) (k + 1) 0 (by omega) (by omega) _ _ hP8 hD8 hS ls (lv_sub hl [0, 1, 2] rfl)
  refine lv_iload_n hx hb d_T_sum_36 rfl (lv_at hl 1 rfl) ?_
  have hP9 := hP.sub (ws' := [(h0, .inr (1, [.ref hy, .int (nI k)])), (hy, .inl (cB, 256, .inl (f)))]) [0, 1] rfl
  have hD9 := hD.sub (ws' := [(h0, .inr (1, [.ref hy, .int (nI k)])), (hy, .inl (cB, 256, .inl (f)))]) [0, 1] (by decide) rfl
  have hK9 := hK.sub (tys' := [(cB, .byte)]) [0] rfl
  exact W.iret (v := (sumL (L.take k))) hx hb hr (fun t ht hW => ⟨⟨(sumL (L.take k)), (), rfl, (by rw [← htx.1, List.take_length]), by rw [ht]; exact hP9, va_K.moved hW.alike hK9, hD9⟩, hS.F ht⟩) hS.2.2 d_T_sum_37
set_option maxHeartbeats 4000000 in
set_option maxRecDepth 100000 in
theorem g_become (l : Launch) (dC : Nat → ClassId) (dI : Nat → Nat → Nat) (sz : Nat) (h0 : Nat) (hy : Nat) (cB : ClassId) (k : Nat) (f : Nat → Int32) (L : List Int32) (h2 : Nat) (hy2 : Nat) (cB2 : ClassId) (k2 : Nat) (fo : Nat → Int32) (L2 : List Int32) (htx : tx L k f) (htx2 : tx L2 k2 fo) (hk2 : k2 ≤ 256) : Met l y_T_become k_T_become ({ frames := 1, cells := 0, slots := 0, locals := 40 } : Room) (va_Pc [.ref h0, .ref h2] (pc_E (dC, dI) [(h0, .inr (1, [.ref hy, .int (nI k)])), (hy, .inl (cB, 256, .inl (f))), (h2, .inr (1, [.ref hy2, .int (nI k2)])), (hy2, .inl (cB2, 256, .inl (fo)))] [(cB, .byte), (cB2, .byte)] sz)) (va_Qv (fun (_ : Unit) => True) (fun (_ : Unit) t => ∃ (f2 : Nat → Int32), (tx L2 k2 f2) ∧ at_E (dC, dI) (va_A [(h0, .inr (1, [.ref hy, .int (nI k)])), (hy, .inl (cB, 256, .inl (f))), (h2, .inr (1, [.ref hy2, .int (nI k2)])), (hy2, .inl (cB2, 256, .inl (fo)))] sz) [(h0, .inr (1, [.ref hy, .int (nI k2)])), (hy, .inl (cB, 256, .inl (f2))), (h2, .inr (1, [.ref hy2, .int (nI k2)])), (hy2, .inl (cB2, 256, .inl (fo)))] [(cB, .byte), (cB2, .byte)] t) (va_A [(h0, .inr (1, [.ref hy, .int (nI k)])), (hy, .inl (cB, 256, .inl (f))), (h2, .inr (1, [.ref hy2, .int (nI k2)])), (hy2, .inl (cB2, 256, .inl (fo)))] sz)) 0 0 (va_A [(h0, .inr (1, [.ref hy, .int (nI k)])), (hy, .inl (cB, 256, .inl (f))), (h2, .inr (1, [.ref hy2, .int (nI k2)])), (hy2, .inl (cB2, 256, .inl (fo)))] sz) := by
  refine Met.ofW (cc := prog_7_method_7_code) (maxL := 2) (ret := none) (by decide) rfl ?_
  intro p e s m args below meth c s₁ B hml hv
  obtain ⟨rfl, hsz, hP, hK, hD0, hN⟩ := hv
  have hx := B.exec
  have hb := B.bytes
  have hr := B.returns
  have hts := atoms_spec (ws := k_T_become) B.pre
  have hw0 : ∀ w ∈ w0, w.before _ s = true := fun w h => hts w (List.mem_cons_of_mem _ h)
  have hown : s.vm.findClass R_T = some m.cls := findClass_of_methodNamed B.named
  have hlocks := B.notSynchronized
  subst hsz
  have hD := hD0.self (sz := s.heap.size)
  generalize hAe : va_A [(h0, .inr (1, [.ref hy, .int (nI k)])), (hy, .inl (cB, 256, .inl (f))), (h2, .inr (1, [.ref hy2, .int (nI k2)])), (hy2, .inl (cB2, 256, .inl (fo)))] s.heap.size = A at hD ⊢
  have hA : ∀ q : Nat, s.heap.size ≤ q → A q := fun q h => by rw [← hAe]; exact Or.inr h
  have hS : va_S A s.heap s.heap [] := va_S.rf
  have hP : va_P (dC, dI) vwCl [(h0, .inr (1, [.ref hy, .int (nI k)])), (hy, .inl (cB, 256, .inl (f))), (h2, .inr (1, [.ref hy2, .int (nI k2)])), (hy2, .inl (cB2, 256, .inl (fo)))] s.heap := hP
  have hl := lv_entry ([.ref h0, .ref h2]) (n := 2) (Nat.le_of_ble_eq_true rfl)
  rw [lg_entry_eq]
  generalize (lg_sl ([.ref h0, .ref h2]) ++ List.replicate (2 - (lg_sl ([.ref h0, .ref h2])).length) Slot.unset).toArray = ls at hl ⊢
  have hl : lv_has ls 2 [(0, .ref h0), (1, .ref h2)] := hl
  refine lv_aload_n hx hb d_T_become_0 rfl (lv_at hl 1 rfl) ?_
  refine va_get (D := (dC, dI)) (ci := 1) (v := .ref hy2) (C := R_T) (T := F_T) (N := 2) hx hb hw0 in_T hown hK hP 2 rfl rfl 0 (by decide) (hw0 (.fieldLink R_T 9 "TextKeeper$Text" "bytes" "[B") (List.mem_of_getElem? (i := 61) rfl)) (fun _ h9 => h9) rfl d_T_become_1 ?_
  refine lv_iconst (v := 0) hx hb d_T_become_4 (by decide) ?_
  refine lv_aload_n hx hb d_T_become_5 rfl (lv_at hl 0 rfl) ?_
  refine va_get (D := (dC, dI)) (ci := 1) (v := .ref hy) (C := R_T) (T := F_T) (N := 2) hx hb hw0 in_T hown hK hP 0 rfl rfl 0 (by decide) (hw0 (.fieldLink R_T 9 "TextKeeper$Text" "bytes" "[B") (List.mem_of_getElem? (i := 61) rfl)) (fun _ h9 => h9) rfl d_T_become_6 ?_
  refine lv_iconst (v := 0) hx hb d_T_become_9 (by decide) ?_
  refine lv_aload_n hx hb d_T_become_10 rfl (lv_at hl 1 rfl) ?_
  refine va_get (D := (dC, dI)) (ci := 1) (v := .int (nI k2)) (C := R_T) (T := F_T) (N := 2) hx hb hw0 in_T hown hK hP 2 rfl rfl 1 (by decide) (hw0 (.fieldLink R_T 15 "TextKeeper$Text" "length" "I") (List.mem_of_getElem? (i := 62) rfl)) (fun _ h9 => h9) rfl d_T_become_11 ?_
  refine va_copyi (ty := .byte) hx hb (hml.trans hl.1.symm) hown (hw0 (.methodLink R_T 23 ⟨"java/lang/System","arraycopy","(Ljava/lang/Object;ILjava/lang/Object;II)V"⟩) (List.mem_of_getElem? (i := 112) rfl)) (hw0 (.native ⟨"java/lang/System","arraycopy","(Ljava/lang/Object;ILjava/lang/Object;II)V"⟩) (List.mem_of_getElem? (i := 113) rfl)) (hw0 (.static ⟨"java/lang/System","arraycopy","(Ljava/lang/Object;ILjava/lang/Object;II)V"⟩) (List.mem_of_getElem? (i := 114) rfl)) (hw0 (.initialized "java/lang/System") (List.mem_of_getElem? (i := 115) rfl)) hK hP hD hS 3 1 1 0 rfl rfl rfl rfl rfl (by decide +kernel) (by decide +kernel) (nI_pos (by omega)) (by rw [sb_cl0, nI_clamp (by omega)]; omega) (by rw [sb_cl0, nI_clamp (by omega)]; omega) (fun i hi => by rw [nI_clamp (by omega)] at hi; rw [sb_cl0, Nat.zero_add]; exact fits_B (tx_inB htx2 hi)) (Nat.le_of_ble_eq_true rfl) (by decide +kernel) d_T_become_14 (fun H locs hP hD hS => ?_)
  replace hP : va_P (dC, dI) vwCl [(h0, .inr (1, [.ref hy, .int (nI k)])), (hy, .inl (cB, 256, .inl (va_cpy (fo) (f) (Int32.toNatClampNeg 0) (Int32.toNatClampNeg 0) (Int32.toNatClampNeg (nI k2))))), (h2, .inr (1, [.ref hy2, .int (nI k2)])), (hy2, .inl (cB2, 256, .inl (fo)))] H := hP
  replace hD : va_D A [(h0, .inr (1, [.ref hy, .int (nI k)])), (hy, .inl (cB, 256, .inl (va_cpy (fo) (f) (Int32.toNatClampNeg 0) (Int32.toNatClampNeg 0) (Int32.toNatClampNeg (nI k2))))), (h2, .inr (1, [.ref hy2, .int (nI k2)])), (hy2, .inl (cB2, 256, .inl (fo)))] := hD
  have eC : va_cpy (fo) (f) (Int32.toNatClampNeg 0) (Int32.toNatClampNeg 0) (Int32.toNatClampNeg (nI k2)) = va_cpy fo f 0 0 k2 := by rw [sb_cl0, nI_clamp (by omega)]
  rw [eC] at hP hD
  refine lv_aload_n hx hb d_T_become_17 rfl (lv_at hl 0 rfl) ?_
  refine lv_aload_n hx hb d_T_become_18 rfl (lv_at hl 1 rfl) ?_
  refine va_get (D := (dC, dI)) (ci := 1) (v := .int (nI k2)) (C := R_T) (T := F_T) (N := 2) hx hb hw0 in_T hown hK hP 2 rfl rfl 1 (by decide) (hw0 (.fieldLink R_T 15 "TextKeeper$Text" "length" "I") (List.mem_of_getElem? (i := 62) rfl)) (fun _ h9 => h9) rfl d_T_become_19 ?_
  refine va_put (D := (dC, dI)) (ci := 1) (v := .int (nI k2)) (ty := .int) (C := R_T) (T := F_T) (N := 2) hx hb hw0 in_T ft_T tk_T nk_T hown hK hP hD hS 0 rfl rfl 1 (by decide) (hw0 (.fieldLink R_T 15 "TextKeeper$Text" "length" "I") (List.mem_of_getElem? (i := 62) rfl)) (fun _ h9 => h9) rfl (by decide +kernel) rfl rfl (Nat.le_of_ble_eq_true rfl) d_T_become_22 (fun H locs hP hD hS => ?_)
  replace hP : va_P (dC, dI) vwCl [(h0, .inr (1, [.ref hy, .int (nI k2)])), (hy, .inl (cB, 256, .inl ((va_cpy fo f 0 0 k2)))), (h2, .inr (1, [.ref hy2, .int (nI k2)])), (hy2, .inl (cB2, 256, .inl (fo)))] H := hP
  replace hD : va_D A [(h0, .inr (1, [.ref hy, .int (nI k2)])), (hy, .inl (cB, 256, .inl ((va_cpy fo f 0 0 k2)))), (h2, .inr (1, [.ref hy2, .int (nI k2)])), (hy2, .inl (cB2, 256, .inl (fo)))] := hD
  have hP9 := hP.sub (ws' := [(h0, .inr (1, [.ref hy, .int (nI k2)])), (hy, .inl (cB, 256, .inl ((va_cpy fo f 0 0 k2)))), (h2, .inr (1, [.ref hy2, .int (nI k2)])), (hy2, .inl (cB2, 256, .inl (fo)))]) [0, 1, 2, 3] rfl
  have hD9 := hD.sub (ws' := [(h0, .inr (1, [.ref hy, .int (nI k2)])), (hy, .inl (cB, 256, .inl ((va_cpy fo f 0 0 k2)))), (h2, .inr (1, [.ref hy2, .int (nI k2)])), (hy2, .inl (cB2, 256, .inl (fo)))]) [0, 1, 2, 3] (by decide) rfl
  have hK9 := hK.sub (tys' := [(cB, .byte), (cB2, .byte)]) [0, 1] rfl
  exact W.vret hx hb hr (fun t ht hW => ⟨⟨(), rfl, trivial, (va_cpy fo f 0 0 k2), tx_cpy htx2, by rw [ht]; exact hP9, va_K.moved hW.alike hK9, hD9⟩, hS.F ht⟩) hS.2.2 d_T_become_25
set_option maxHeartbeats 4000000 in
set_option maxRecDepth 100000 in
theorem lq_run {p : Program} {l : Launch} {e : Env} {s : State} {m : MethodId} {args : Array Value} {below : List Frame} {meth : Method} {c : Code} {dC : Nat → ClassId} {dI : Nat → Nat → Nat} {Q : State → Prop} {H : Heap} {locs : List Loc} (h0 : Nat) (hy : Nat) (cB : ClassId) (k : Nat) (f : Nat → Int32) (L : List Int32) (h2 : Nat) (hy2 : Nat) (cB2 : ClassId) (k2 : Nat) (fo : Nat → Int32) (L2 : List Int32) (i : Nat) (j0 : Nat) (htx : tx L k f) (htx2 : tx L2 k2 fo) (hk : k ≤ 256) (hk2 : k2 ≤ 256) (hi : i ≤ k) (hj0 : j0 ≤ k2)
    (hx : p.tables.exec = Jvm.exec) (hb : c.code = prog_7_method_9_code) (hml : c.maxLocals = 6) (hown : s.vm.findClass R_T = some m.cls) (hw0 : ∀ w ∈ w0, w.before args s = true) (hN : nw_ok s) (hK : va_K (dC, dI) vwCl [(cB, .byte), (cB2, .byte)] s) (hP : va_P (dC, dI) vwCl [(h0, .inr (1, [.ref hy, .int (nI k)])), (hy, .inl (cB, 256, .inl (f))), (h2, .inr (1, [.ref hy2, .int (nI k2)])), (hy2, .inl (cB2, 256, .inl (fo)))] H)
    (kk : ∀ ls : Array Slot, lv_has ls 6 [(5, .int (nI (cpl (L.drop i) (L2.drop j0)))), (4, .int (nI (min (k - i) (k2 - j0)))), (0, .ref h0), (1, .int (nI i)), (2, .ref h2), (3, .int (nI j0))] → W p l e ({ frames := 1, cells := 0, slots := 0, locals := 24 } : Room) s m args below meth c H locs 0 0 Q (F0 m 54 ls [])) :
    ∀ (n j : Nat), j ≤ (min (k - i) (k2 - j0)) → (min (k - i) (k2 - j0)) < j + n → (∀ t, t < j → (L.drop i).getD t 0 = (L2.drop j0).getD t 0) → ∀ ls : Array Slot, lv_has ls 6 [(5, .int (nI j)), (4, .int (nI (min (k - i) (k2 - j0)))), (0, .ref h0), (1, .int (nI i)), (2, .ref h2), (3, .int (nI j0))] → W p l e ({ frames := 1, cells := 0, slots := 0, locals := 24 } : Room) s m args below meth c H locs 0 0 Q (F0 m 20 ls []) := by
  intro n
  induction n with
  | zero => intro j  h1 h2; exact absurd h2 (by omega)
  | succ n ih =>
    intro j  hj hn hf0 ls hl
    refine lv_iload hx hb d_T_runWith_20 (lv_at hl 0 rfl) ?_
    refine lv_iload hx hb d_T_runWith_22 (lv_at hl 1 rfl) ?_
    refine lv_icmp_ge (tgt := 54) hx hb d_T_runWith_24 (by decide) (fun c_1 => ?_) (fun c_1 => ?_)
    · have e9 : (cpl (L.drop i) (L2.drop j0)) = j := cpl_is (by rw [List.length_drop, htx.1]; omega) (by rw [List.length_drop, htx2.1]; omega) hf0 (by have h9 := x_geN (by omega) hj c_1; rcases Nat.le_total (k - i) (k2 - j0) with q | q; exact Or.inl (by rw [List.length_drop, htx.1]; omega); exact Or.inr (Or.inl (by rw [List.length_drop, htx2.1]; omega)))
      exact kk ls (by rw [e9]; exact (lv_sub hl [0, 1, 2, 3, 4, 5] rfl))
    · have hlt : j < (min (k - i) (k2 - j0)) := x_ltN (by omega) hj c_1
      refine lv_aload_n hx hb d_T_runWith_27 rfl (lv_at hl 2 rfl) ?_
      refine va_get (D := (dC, dI)) (ci := 1) (v := .ref hy) (C := R_T) (T := F_T) (N := 2) hx hb hw0 in_T hown hK hP 0 rfl rfl 0 (by decide) (hw0 (.fieldLink R_T 9 "TextKeeper$Text" "bytes" "[B") (List.mem_of_getElem? (i := 61) rfl)) (fun _ h9 => h9) rfl d_T_runWith_28 ?_
      refine lv_iload_n hx hb d_T_runWith_31 rfl (lv_at hl 3 rfl) ?_
      refine lv_iload hx hb d_T_runWith_32 (lv_at hl 0 rfl) ?_
      refine lv_iadd hx hb d_T_runWith_34 ?_
      refine lv_topi (fun x_2 ex_2 => ?_)
      obtain rfl : x_2 = (nI (i + j)) := by rw [ex_2]; exact nI_add i j
      clear ex_2
      refine va_bald hx hb hK hP 1 0 rfl rfl (vp_in_nI (by omega) (by decide)) d_T_runWith_35 ?_
      refine lv_topi (fun x_3 ex_3 => ?_)
      refine lv_aload_n hx hb d_T_runWith_36 rfl (lv_at hl 4 rfl) ?_
      refine va_get (D := (dC, dI)) (ci := 1) (v := .ref hy2) (C := R_T) (T := F_T) (N := 2) hx hb hw0 in_T hown hK hP 2 rfl rfl 0 (by decide) (hw0 (.fieldLink R_T 9 "TextKeeper$Text" "bytes" "[B") (List.mem_of_getElem? (i := 61) rfl)) (fun _ h9 => h9) rfl d_T_runWith_37 ?_
      refine lv_iload_n hx hb d_T_runWith_40 rfl (lv_at hl 5 rfl) ?_
      refine lv_iload hx hb d_T_runWith_41 (lv_at hl 0 rfl) ?_
      refine lv_iadd hx hb d_T_runWith_43 ?_
      refine lv_topi (fun x_4 ex_4 => ?_)
      obtain rfl : x_4 = (nI (j0 + j)) := by rw [ex_4]; exact nI_add j0 j
      clear ex_4
      refine va_bald hx hb hK hP 3 1 rfl rfl (vp_in_nI (by omega) (by decide)) d_T_runWith_44 ?_
      refine lv_topi (fun x_5 ex_5 => ?_)
      refine lv_icmp_ne (tgt := 54) hx hb d_T_runWith_45 (by decide) (fun c_6 => ?_) (fun c_6 => ?_)
      · have e9 : (cpl (L.drop i) (L2.drop j0)) = j := cpl_is (by rw [List.length_drop, htx.1]; omega) (by rw [List.length_drop, htx2.1]; omega) hf0 (Or.inr (Or.inr (fun h9 => c_6 (by rw [getD_drop, getD_drop] at h9; rw [ex_3, ex_5, nI_clamp (by omega), nI_clamp (by omega), tx_at htx (by omega), tx_at htx2 (by omega)]; exact h9))))
        exact kk ls (by rw [e9]; exact (lv_sub hl [0, 1, 2, 3, 4, 5] rfl))
      · refine lv_iinc (v := nI (j + 1)) (lv' := [(5, .int (nI (j + 1))), (4, .int (nI (min (k - i) (k2 - j0)))), (0, .ref h0), (1, .int (nI i)), (2, .ref h2), (3, .int (nI j0))]) hx hb d_T_runWith_48 hl (k := 0) rfl (nI_1 j) (by decide) rfl (fun ls hl => ?_)
        refine lv_goto (tgt := 20) hx hb d_T_runWith_51 (by decide) ?_
        exact ih (j + 1) hlt (by omega) (fun t ht => by rcases Nat.lt_or_ge t j with q | q; exact hf0 t q; obtain rfl : t = j := (by omega); have h9 := c_6; rw [ex_3, ex_5] at h9; rw [getD_drop, getD_drop]; rw [nI_clamp (by omega), nI_clamp (by omega), tx_at htx (by omega), tx_at htx2 (by omega)] at h9; exact h9) ls (lv_sub hl [0, 1, 2, 3, 4, 5] rfl)
set_option maxHeartbeats 4000000 in
set_option maxRecDepth 100000 in
theorem g_runWith (l : Launch) (dC : Nat → ClassId) (dI : Nat → Nat → Nat) (h0 : Nat) (hy : Nat) (cB : ClassId) (k : Nat) (f : Nat → Int32) (L : List Int32) (h2 : Nat) (hy2 : Nat) (cB2 : ClassId) (k2 : Nat) (fo : Nat → Int32) (L2 : List Int32) (i : Nat) (j0 : Nat) (htx : tx L k f) (htx2 : tx L2 k2 fo) (hk : k ≤ 256) (hk2 : k2 ≤ 256) (hi : i ≤ k) (hj0 : j0 ≤ k2) : Met l y_T_runWith k_T_runWith ({ frames := 1, cells := 0, slots := 0, locals := 24 } : Room) (va_Pc [.ref h0, .int (nI i), .ref h2, .int (nI j0)] (pc_R (dC, dI) [(h0, .inr (1, [.ref hy, .int (nI k)])), (hy, .inl (cB, 256, .inl (f))), (h2, .inr (1, [.ref hy2, .int (nI k2)])), (hy2, .inl (cB2, 256, .inl (fo)))] [(cB, .byte), (cB2, .byte)])) (vp_Si (fun r => r = nI (cpl (L.drop i) (L2.drop j0)))) 0 0 (fun _ => False) := by
  refine Met.ofW (cc := prog_7_method_9_code) (maxL := 6) (ret := (some .int)) (by decide) rfl ?_
  intro p e s m args below meth c s₁ B hml hv
  obtain ⟨rfl, hP, hK, hN⟩ := hv
  have hx := B.exec
  have hb := B.bytes
  have hr := B.returns
  have hts := atoms_spec (ws := k_T_runWith) B.pre
  have hw0 : ∀ w ∈ w0, w.before _ s = true := fun w h => hts w (List.mem_cons_of_mem _ h)
  have hown : s.vm.findClass R_T = some m.cls := findClass_of_methodNamed B.named
  have hlocks := B.notSynchronized
  have hP : va_P (dC, dI) vwCl [(h0, .inr (1, [.ref hy, .int (nI k)])), (hy, .inl (cB, 256, .inl (f))), (h2, .inr (1, [.ref hy2, .int (nI k2)])), (hy2, .inl (cB2, 256, .inl (fo)))] s.heap := hP
  have hl := lv_entry ([.ref h0, .int (nI i), .ref h2, .int (nI j0)]) (n := 6) (Nat.le_of_ble_eq_true rfl)
  rw [lg_entry_eq]
  generalize (lg_sl ([.ref h0, .int (nI i), .ref h2, .int (nI j0)]) ++ List.replicate (6 - (lg_sl ([.ref h0, .int (nI i), .ref h2, .int (nI j0)])).length) Slot.unset).toArray = ls at hl ⊢
  have hl : lv_has ls 6 [(0, .ref h0), (1, .int (nI i)), (2, .ref h2), (3, .int (nI j0))] := hl
  refine lv_aload_n hx hb d_T_runWith_0 rfl (lv_at hl 0 rfl) ?_
  refine va_get (D := (dC, dI)) (ci := 1) (v := .int (nI k)) (C := R_T) (T := F_T) (N := 2) hx hb hw0 in_T hown hK hP 0 rfl rfl 1 (by decide) (hw0 (.fieldLink R_T 15 "TextKeeper$Text" "length" "I") (List.mem_of_getElem? (i := 62) rfl)) (fun _ h9 => h9) rfl d_T_runWith_1 ?_
  refine lv_iload_n hx hb d_T_runWith_4 rfl (lv_at hl 1 rfl) ?_
  refine lv_isub hx hb d_T_runWith_5 ?_
  refine lv_topi (fun x_1 ex_1 => ?_)
  obtain rfl : x_1 = (nI (k - i)) := by rw [ex_1]; exact pk_sub hi
  clear ex_1
  refine lv_aload_n hx hb d_T_runWith_6 rfl (lv_at hl 2 rfl) ?_
  refine va_get (D := (dC, dI)) (ci := 1) (v := .int (nI k2)) (C := R_T) (T := F_T) (N := 2) hx hb hw0 in_T hown hK hP 2 rfl rfl 1 (by decide) (hw0 (.fieldLink R_T 15 "TextKeeper$Text" "length" "I") (List.mem_of_getElem? (i := 62) rfl)) (fun _ h9 => h9) rfl d_T_runWith_7 ?_
  refine lv_iload_n hx hb d_T_runWith_10 rfl (lv_at hl 3 rfl) ?_
  refine lv_isub hx hb d_T_runWith_11 ?_
  refine lv_topi (fun x_2 ex_2 => ?_)
  obtain rfl : x_2 = (nI (k2 - j0)) := by rw [ex_2]; exact pk_sub hj0
  clear ex_2
  refine va_mmin hx hb (hml.trans hl.1.symm) hown (hw0 (.methodLink R_T 29 ⟨"java/lang/Math","min","(II)I"⟩) (List.mem_of_getElem? (i := 117) rfl)) (hw0 (.static ⟨"java/lang/Math","min","(II)I"⟩) (List.mem_of_getElem? (i := 118) rfl)) (hw0 (.initialized "java/lang/Math") (List.mem_of_getElem? (i := 119) rfl)) (hw0 (.code Lib.Math.min.name Lib.Math.min.code 2 (some .int)) (List.mem_of_getElem? (i := 116) rfl)) (Nat.le_of_ble_eq_true rfl) (Nat.le_of_ble_eq_true rfl) (by decide +kernel) (by decide +kernel) d_T_runWith_12 ?_
  refine lv_topi (fun x_3 ex_3 => ?_)
  obtain rfl : x_3 = (nI (min (k - i) (k2 - j0))) := ex_3.trans (x_min (a := (k - i)) (b := (k2 - j0)) (by omega) (by omega))
  clear ex_3
  refine lv_istore (lv' := [(4, .int (nI (min (k - i) (k2 - j0)))), (0, .ref h0), (1, .int (nI i)), (2, .ref h2), (3, .int (nI j0))]) hx hb d_T_runWith_15 hl (by decide) rfl (fun ls hl => ?_)
  refine lv_iconst (v := 0) hx hb d_T_runWith_17 (by decide) ?_
  refine lv_istore (lv' := [(5, .int 0), (4, .int (nI (min (k - i) (k2 - j0)))), (0, .ref h0), (1, .int (nI i)), (2, .ref h2), (3, .int (nI j0))]) hx hb d_T_runWith_18 hl (by decide) rfl (fun ls hl => ?_)
  refine lq_run h0 hy cB k f L h2 hy2 cB2 k2 fo L2 i j0 htx htx2 hk hk2 hi hj0 hx hb hml hown hw0 hN hK hP (fun ls hl => ?_) ((min (k - i) (k2 - j0)) + 1) 0 (by omega) (by omega) (fun t ht => absurd ht (Nat.not_lt_zero t)) ls (lv_sub hl [0, 1, 2, 3, 4, 5] rfl)
  refine lv_iload hx hb d_T_runWith_54 (lv_at hl 0 rfl) ?_
  exact W.iret (v := (nI (cpl (L.drop i) (L2.drop j0)))) hx hb hr (fun t ht hW => ⟨(nI (cpl (L.drop i) (L2.drop j0))), rfl, rfl, ht⟩) (fun q h => by cases h) d_T_runWith_56
