set_option maxHeartbeats 4000000 in
set_option maxRecDepth 100000 in
theorem c_hasRoom20 (l : Launch) (dC : Nat → ClassId) (dI : Nat → Nat → Nat) (h0 : Nat) (v_bytes : Value)  : Met l y_T_hasRoom k_T_hasRoom ({ frames := 0, cells := 0, slots := 0, locals := 0 } : Room) (va_Pc [.ref h0, .int 20] (pc_R (dC, dI) [(h0, .inr (1, [v_bytes, .int 0]))] [])) (vp_Si (fun r => r = 1)) 0 0 (fun _ => False) := by
  refine Met.ofW (cc := prog_7_method_3_code) (maxL := 2) (ret := (some .boolean)) (by decide) rfl ?_
  intro p e s m args below meth c s₁ B hml hv
  obtain ⟨rfl, hP, hK, hN⟩ := hv
  have hx := B.exec
  have hb := B.bytes
  have hr := B.returns
  have hts := atoms_spec (ws := k_T_hasRoom) B.pre
  have hw0 : ∀ w ∈ w0, w.before _ s = true := fun w h => hts w (List.mem_cons_of_mem _ h)
  have hown : s.vm.findClass R_T = some m.cls := findClass_of_methodNamed B.named
  have hlocks := B.notSynchronized
  have hP : va_P (dC, dI) vwCl [(h0, .inr (1, [v_bytes, .int 0]))] s.heap := hP
  have hl := lv_entry ([.ref h0, .int 20]) (n := 2) (Nat.le_of_ble_eq_true rfl)
  rw [lg_entry_eq]
  generalize (lg_sl ([.ref h0, .int 20]) ++ List.replicate (2 - (lg_sl ([.ref h0, .int 20])).length) Slot.unset).toArray = ls at hl ⊢
  have hl : lv_has ls 2 [(0, .ref h0), (1, .int 20)] := hl
  refine lv_iload_n hx hb d_T_hasRoom_0 rfl (lv_at hl 1 rfl) ?_
  refine lv_sipush (v := 256) hx hb d_T_hasRoom_1 (by decide +kernel) ?_
  refine lv_aload_n hx hb d_T_hasRoom_4 rfl (lv_at hl 0 rfl) ?_
  refine va_get (D := (dC, dI)) (ci := 1) (v := .int 0) (C := R_T) (T := F_T) (N := 2) hx hb hw0 in_T hown hK hP 0 rfl rfl 1 (by decide) (hw0 (.fieldLink R_T 15 "TextKeeper$Text" "length" "I") (List.mem_of_getElem? (i := 62) rfl)) (fun _ h9 => h9) rfl d_T_hasRoom_5 ?_
  refine lv_isub hx hb d_T_hasRoom_8 ?_
  refine lv_topi (fun x_1 ex_1 => ?_)
  obtain rfl : x_1 = 256 := ex_1.trans (by decide +kernel)
  clear ex_1
  refine lv_icmp_gt (tgt := 16) hx hb d_T_hasRoom_9 (by decide) (fun h9 => absurd h9 (by decide +kernel)) (fun _ => ?_)
  refine lv_iconst (v := 1) hx hb d_T_hasRoom_12 (by decide) ?_
  refine lv_goto (tgt := 17) hx hb d_T_hasRoom_13 (by decide) ?_
  exact W.zret (v := 1) (ty := .boolean) hx hb hr rfl (fun t ht hW => ⟨1, rfl, rfl, ht⟩) (fun q h => by cases h) d_T_hasRoom_17
set_option maxHeartbeats 4000000 in
set_option maxRecDepth 100000 in
theorem c_addByte (l : Launch) (dC : Nat → ClassId) (dI : Nat → Nat → Nat) (sz : Nat) (h0 : Nat) (hy : Nat) (cB : ClassId) (k : Nat) (f : Nat → Int32) (a1 : Int32) (hk : k ≤ 256) : Met l y_T_addByte k_T_addByte ({ frames := 0, cells := 0, slots := 0, locals := 0 } : Room) (va_Pc [.ref h0, .int a1] (pc_E (dC, dI) [(h0, .inr (1, [.ref hy, .int (nI k)])), (hy, .inl (cB, 256, .inl (f)))] [(cB, .byte)] sz)) (va_Qv (fun (_ : Unit) => True) (fun (_ : Unit) t => ∃ (k2 : Nat) (f2 : Nat → Int32), (k2 ≤ 256) ∧ at_E (dC, dI) (va_A [(h0, .inr (1, [.ref hy, .int (nI k)])), (hy, .inl (cB, 256, .inl (f)))] sz) [(h0, .inr (1, [.ref hy, .int (nI k2)])), (hy, .inl (cB, 256, .inl (f2)))] [(cB, .byte)] t) (va_A [(h0, .inr (1, [.ref hy, .int (nI k)])), (hy, .inl (cB, 256, .inl (f)))] sz)) 0 0 (va_A [(h0, .inr (1, [.ref hy, .int (nI k)])), (hy, .inl (cB, 256, .inl (f)))] sz) := by
  refine Met.ofW (cc := prog_7_method_4_code) (maxL := 2) (ret := none) (by decide) rfl ?_
  intro p e s m args below meth c s₁ B hml hv
  obtain ⟨rfl, hsz, hP, hK, hD0, hN⟩ := hv
  have hx := B.exec
  have hb := B.bytes
  have hr := B.returns
  have hts := atoms_spec (ws := k_T_addByte) B.pre
  have hw0 : ∀ w ∈ w0, w.before _ s = true := fun w h => hts w (List.mem_cons_of_mem _ h)
  have hown : s.vm.findClass R_T = some m.cls := findClass_of_methodNamed B.named
  have hlocks := B.notSynchronized
  subst hsz
  have hD := hD0.self (sz := s.heap.size)
  generalize hAe : va_A [(h0, .inr (1, [.ref hy, .int (nI k)])), (hy, .inl (cB, 256, .inl (f)))] s.heap.size = A at hD ⊢
  have hA : ∀ q : Nat, s.heap.size ≤ q → A q := fun q h => by rw [← hAe]; exact Or.inr h
  have hS : va_S A s.heap s.heap [] := va_S.rf
  have hP : va_P (dC, dI) vwCl [(h0, .inr (1, [.ref hy, .int (nI k)])), (hy, .inl (cB, 256, .inl (f)))] s.heap := hP
  have hl := lv_entry ([.ref h0, .int a1]) (n := 2) (Nat.le_of_ble_eq_true rfl)
  rw [lg_entry_eq]
  generalize (lg_sl ([.ref h0, .int a1]) ++ List.replicate (2 - (lg_sl ([.ref h0, .int a1])).length) Slot.unset).toArray = ls at hl ⊢
  have hl : lv_has ls 2 [(0, .ref h0), (1, .int a1)] := hl
  refine lv_aload_n hx hb d_T_addByte_0 rfl (lv_at hl 0 rfl) ?_
  refine va_get (D := (dC, dI)) (ci := 1) (v := .int (nI k)) (C := R_T) (T := F_T) (N := 2) hx hb hw0 in_T hown hK hP 0 rfl rfl 1 (by decide) (hw0 (.fieldLink R_T 15 "TextKeeper$Text" "length" "I") (List.mem_of_getElem? (i := 62) rfl)) (fun _ h9 => h9) rfl d_T_addByte_1 ?_
  refine lv_sipush (v := 256) hx hb d_T_addByte_4 (by decide +kernel) ?_
  refine lv_icmp_ge (tgt := 31) hx hb d_T_addByte_7 (by decide) (fun c_1 => ?_) (fun c_1 => ?_)
  · have hP9 := hP.sub (ws' := [(h0, .inr (1, [.ref hy, .int (nI k)])), (hy, .inl (cB, 256, .inl (f)))]) [0, 1] rfl
    have hD9 := hD.sub (ws' := [(h0, .inr (1, [.ref hy, .int (nI k)])), (hy, .inl (cB, 256, .inl (f)))]) [0, 1] (by decide) rfl
    have hK9 := hK.sub (tys' := [(cB, .byte)]) [0] rfl
    exact W.vret hx hb hr (fun t ht hW => ⟨⟨(), rfl, trivial, k, f, hk, by rw [ht]; exact hP9, va_K.moved hW.alike hK9, hD9⟩, hS.F ht⟩) hS.2.2 d_T_addByte_31
  · refine lv_aload_n hx hb d_T_addByte_10 rfl (lv_at hl 0 rfl) ?_
    refine va_get (D := (dC, dI)) (ci := 1) (v := .ref hy) (C := R_T) (T := F_T) (N := 2) hx hb hw0 in_T hown hK hP 0 rfl rfl 0 (by decide) (hw0 (.fieldLink R_T 9 "TextKeeper$Text" "bytes" "[B") (List.mem_of_getElem? (i := 61) rfl)) (fun _ h9 => h9) rfl d_T_addByte_11 ?_
    refine lv_aload_n hx hb d_T_addByte_14 rfl (lv_at hl 0 rfl) ?_
    refine va_get (D := (dC, dI)) (ci := 1) (v := .int (nI k)) (C := R_T) (T := F_T) (N := 2) hx hb hw0 in_T hown hK hP 0 rfl rfl 1 (by decide) (hw0 (.fieldLink R_T 15 "TextKeeper$Text" "length" "I") (List.mem_of_getElem? (i := 62) rfl)) (fun _ h9 => h9) rfl d_T_addByte_15 ?_
    refine lv_iload_n hx hb d_T_addByte_18 rfl (lv_at hl 1 rfl) ?_
    obtain ⟨x_2, ex_2⟩ : ∃ y : Int32, a1.toInt8.toInt32 = y := ⟨_, rfl⟩
    refine lv_i2b (v := x_2) hx hb d_T_addByte_19 ex_2 ?_
    refine va_bast hx hb hK hP hD hS 1 0 rfl rfl (vp_in_nI (x_lt256 c_1 hk) (by decide)) d_T_addByte_20 (fun H locs hP hD hS => ?_)
    replace hP : va_P (dC, dI) vwCl [(h0, .inr (1, [.ref hy, .int (nI k)])), (hy, .inl (cB, 256, .inl (upd (f) (Int32.toNatClampNeg (nI k)) (vp_nar .byte (x_2)))))] H := hP
    replace hD : va_D A [(h0, .inr (1, [.ref hy, .int (nI k)])), (hy, .inl (cB, 256, .inl (upd (f) (Int32.toNatClampNeg (nI k)) (vp_nar .byte (x_2)))))] := hD
    generalize upd (f) (Int32.toNatClampNeg (nI k)) (vp_nar .byte (x_2)) = f_3 at hP hD
    refine lv_aload_n hx hb d_T_addByte_21 rfl (lv_at hl 0 rfl) ?_
    refine lv_dup hx hb d_T_addByte_22 rfl ?_
    refine va_get (D := (dC, dI)) (ci := 1) (v := .int (nI k)) (C := R_T) (T := F_T) (N := 2) hx hb hw0 in_T hown hK hP 0 rfl rfl 1 (by decide) (hw0 (.fieldLink R_T 15 "TextKeeper$Text" "length" "I") (List.mem_of_getElem? (i := 62) rfl)) (fun _ h9 => h9) rfl d_T_addByte_23 ?_
    refine lv_iconst (v := 1) hx hb d_T_addByte_26 (by decide) ?_
    refine lv_iadd hx hb d_T_addByte_27 ?_
    refine lv_topi (fun x_4 ex_4 => ?_)
    obtain rfl : x_4 = nI (k + 1) := ex_4.trans (nI_1 k)
    clear ex_4
    refine va_put (D := (dC, dI)) (ci := 1) (v := .int (nI (k + 1))) (ty := .int) (C := R_T) (T := F_T) (N := 2) hx hb hw0 in_T ft_T tk_T nk_T hown hK hP hD hS 0 rfl rfl 1 (by decide) (hw0 (.fieldLink R_T 15 "TextKeeper$Text" "length" "I") (List.mem_of_getElem? (i := 62) rfl)) (fun _ h9 => h9) rfl (by decide +kernel) rfl rfl (Nat.le_of_ble_eq_true rfl) d_T_addByte_28 (fun H locs hP hD hS => ?_)
    replace hP : va_P (dC, dI) vwCl [(h0, .inr (1, [.ref hy, .int (nI (k + 1))])), (hy, .inl (cB, 256, .inl (f_3)))] H := hP
    replace hD : va_D A [(h0, .inr (1, [.ref hy, .int (nI (k + 1))])), (hy, .inl (cB, 256, .inl (f_3)))] := hD
    have hP9 := hP.sub (ws' := [(h0, .inr (1, [.ref hy, .int (nI ((k + 1)))])), (hy, .inl (cB, 256, .inl (f_3)))]) [0, 1] rfl
    have hD9 := hD.sub (ws' := [(h0, .inr (1, [.ref hy, .int (nI ((k + 1)))])), (hy, .inl (cB, 256, .inl (f_3)))]) [0, 1] (by decide) rfl
    have hK9 := hK.sub (tys' := [(cB, .byte)]) [0] rfl
    exact W.vret hx hb hr (fun t ht hW => ⟨⟨(), rfl, trivial, ((k + 1)), f_3, (x_lt256 c_1 hk), by rw [ht]; exact hP9, va_K.moved hW.alike hK9, hD9⟩, hS.F ht⟩) hS.2.2 d_T_addByte_31
set_option maxHeartbeats 4000000 in
set_option maxRecDepth 100000 in
theorem c_addInt (l : Launch) (dC : Nat → ClassId) (dI : Nat → Nat → Nat) (sz : Nat) (h0 : Nat) (hy : Nat) (cB : ClassId) (k : Nat) (f : Nat → Int32) (a1 : Int32) (hk : k ≤ 256) : Met l y_T_addInt k_T_addInt ({ frames := 1, cells := 0, slots := 0, locals := 21 } : Room) (va_Pc [.ref h0, .int a1] (pc_E (dC, dI) [(h0, .inr (1, [.ref hy, .int (nI k)])), (hy, .inl (cB, 256, .inl (f)))] [(cB, .byte)] sz)) (va_Qv (fun (_ : Unit) => True) (fun (_ : Unit) t => ∃ (k2 : Nat) (f2 : Nat → Int32), (k2 ≤ 256) ∧ at_E (dC, dI) (va_A [(h0, .inr (1, [.ref hy, .int (nI k)])), (hy, .inl (cB, 256, .inl (f)))] sz) [(h0, .inr (1, [.ref hy, .int (nI k2)])), (hy, .inl (cB, 256, .inl (f2)))] [(cB, .byte)] t) (va_A [(h0, .inr (1, [.ref hy, .int (nI k)])), (hy, .inl (cB, 256, .inl (f)))] sz)) 0 0 (va_A [(h0, .inr (1, [.ref hy, .int (nI k)])), (hy, .inl (cB, 256, .inl (f)))] sz) := by
  refine Met.ofW (cc := prog_7_method_5_code) (maxL := 3) (ret := none) (by decide) rfl ?_
  intro p e s m args below meth c s₁ B hml hv
  obtain ⟨rfl, hsz, hP, hK, hD0, hN⟩ := hv
  have hx := B.exec
  have hb := B.bytes
  have hr := B.returns
  have hts := atoms_spec (ws := k_T_addInt) B.pre
  have hw0 : ∀ w ∈ w0, w.before _ s = true := fun w h => hts w (List.mem_cons_of_mem _ h)
  have hown : s.vm.findClass R_T = some m.cls := findClass_of_methodNamed B.named
  have hlocks := B.notSynchronized
  subst hsz
  have hD := hD0.self (sz := s.heap.size)
  generalize hAe : va_A [(h0, .inr (1, [.ref hy, .int (nI k)])), (hy, .inl (cB, 256, .inl (f)))] s.heap.size = A at hD ⊢
  have hA : ∀ q : Nat, s.heap.size ≤ q → A q := fun q h => by rw [← hAe]; exact Or.inr h
  have hS : va_S A s.heap s.heap [] := va_S.rf
  have hP : va_P (dC, dI) vwCl [(h0, .inr (1, [.ref hy, .int (nI k)])), (hy, .inl (cB, 256, .inl (f)))] s.heap := hP
  have hl := lv_entry ([.ref h0, .int a1]) (n := 3) (Nat.le_of_ble_eq_true rfl)
  rw [lg_entry_eq]
  generalize (lg_sl ([.ref h0, .int a1]) ++ List.replicate (3 - (lg_sl ([.ref h0, .int a1])).length) Slot.unset).toArray = ls at hl ⊢
  have hl : lv_has ls 3 [(0, .ref h0), (1, .int a1)] := hl
  refine lv_bipush (v := 24) hx hb d_T_addInt_0 (by decide +kernel) ?_
  refine lv_istore_n (lv' := [(2, .int 24), (0, .ref h0), (1, .int a1)]) hx hb d_T_addInt_2 rfl hl (by decide) rfl (fun ls hl => ?_)
  refine lv_iload_n hx hb d_T_addInt_3 rfl (lv_at hl 0 rfl) ?_
  refine lv_if_lt (tgt := 20) hx hb d_T_addInt_4 (by decide) (fun h9 => absurd h9 (by decide +kernel)) (fun _ => ?_)
  refine lv_aload_n hx hb d_T_addInt_7 rfl (lv_at hl 1 rfl) ?_
  refine lv_iload_n hx hb d_T_addInt_8 rfl (lv_at hl 2 rfl) ?_
  refine lv_iload_n hx hb d_T_addInt_9 rfl (lv_at hl 0 rfl) ?_
  refine lv_ishr hx hb d_T_addInt_10 ?_
  refine lv_topi (fun x_1 ex_1 => ?_)
  have hPc := hP.sub (ws' := [(h0, .inr (1, [.ref hy, .int (nI k)])), (hy, .inl (cB, 256, .inl ((f))))]) [0, 1] rfl
  have hKc := hK.sub (tys' := [(cB, .byte)]) [0] rfl
  have hDc := hD.sub (ws' := [(h0, .inr (1, [.ref hy, .int (nI k)])), (hy, .inl (cB, 256, .inl ((f))))]) [0, 1] (by decide) rfl
  have hFc := va_free (wc := [(h0, .inr (1, [.ref hy, .int (nI k)])), (hy, .inl (cB, 256, .inl ((f))))]) hD hS hA [0, 1] rfl
  refine va_callv (va_runV (As := [.int x_1]) (rest := []) ⟨hx, hb, hml, hown, hw0⟩ (c_addByte l dC dI s.heap.size h0 hy cB k (f) x_1 (by first | assumption | decide | omega)) (cwV 1 hw0 (gd_V 129 130 131 69 132 rfl rfl rfl rfl rfl) rfl rfl rfl (by decide +kernel) ⟨by decide +kernel, by decide +kernel⟩) (prV_E hPc hKc hDc hN (va_recv hKc hPc (ci := 1) (q0 := 0) rfl rfl)) rfl rfl hl.1 rfl (lv_room (Nat.le_of_ble_eq_true rfl)) d_T_addInt_11 ⟨by decide +kernel, by decide +kernel⟩) hS (fun q _ h => hFc q h) hFc (fun u t H1 locs ht hvm hw hB hz1 hk1 hS => ?_)
  obtain ⟨k2_2, f2_3, hu_4, hP1, hK1, hD1⟩ := hB
  rw [ht] at hP1
  have hK1 := va_K.moved hvm.symm hK1
  try dsimp only at hw
  obtain ⟨hP, hD⟩ := va_join (wr := []) (w1 := [(h0, .inr (1, [.ref hy, .int (nI k2_2)])), (hy, .inl (cB, 256, .inl (f2_3)))]) hP hD [0, 1] [] rfl rfl (by decide) (by decide) hk1 hFc hP1 hD1
  generalize H1 = H at hP hS ⊢
  replace hP : va_P (dC, dI) vwCl [(h0, .inr (1, [.ref hy, .int (nI k2_2)])), (hy, .inl (cB, 256, .inl (f2_3)))] H := hP
  replace hD : va_D A [(h0, .inr (1, [.ref hy, .int (nI k2_2)])), (hy, .inl (cB, 256, .inl (f2_3)))] := hD
  replace hK : va_K (dC, dI) vwCl [(cB, .byte)] s := hK
  refine lv_iinc (v := 16) (lv' := [(2, .int 16), (0, .ref h0), (1, .int a1)]) hx hb d_T_addInt_14 hl (k := 0) rfl (by decide +kernel) (by decide) rfl (fun ls hl => ?_)
  refine lv_goto (tgt := 3) hx hb d_T_addInt_17 (by decide) ?_
  refine lv_iload_n hx hb d_T_addInt_3 rfl (lv_at hl 0 rfl) ?_
  refine lv_if_lt (tgt := 20) hx hb d_T_addInt_4 (by decide) (fun h9 => absurd h9 (by decide +kernel)) (fun _ => ?_)
  refine lv_aload_n hx hb d_T_addInt_7 rfl (lv_at hl 1 rfl) ?_
  refine lv_iload_n hx hb d_T_addInt_8 rfl (lv_at hl 2 rfl) ?_
  refine lv_iload_n hx hb d_T_addInt_9 rfl (lv_at hl 0 rfl) ?_
  refine lv_ishr hx hb d_T_addInt_10 ?_
  refine lv_topi (fun x_5 ex_5 => ?_)
  have hPc := hP.sub (ws' := [(h0, .inr (1, [.ref hy, .int (nI k2_2)])), (hy, .inl (cB, 256, .inl ((f2_3))))]) [0, 1] rfl
  have hKc := hK.sub (tys' := [(cB, .byte)]) [0] rfl
  have hDc := hD.sub (ws' := [(h0, .inr (1, [.ref hy, .int (nI k2_2)])), (hy, .inl (cB, 256, .inl ((f2_3))))]) [0, 1] (by decide) rfl
  have hFc := va_free (wc := [(h0, .inr (1, [.ref hy, .int (nI k2_2)])), (hy, .inl (cB, 256, .inl ((f2_3))))]) hD hS hA [0, 1] rfl
  refine va_callv (va_runV (As := [.int x_5]) (rest := []) ⟨hx, hb, hml, hown, hw0⟩ (c_addByte l dC dI H.size h0 hy cB k2_2 (f2_3) x_5 (by first | assumption | decide | omega)) (cwV 1 hw0 (gd_V 129 130 131 69 132 rfl rfl rfl rfl rfl) rfl rfl rfl (by decide +kernel) ⟨by decide +kernel, by decide +kernel⟩) (prV_E hPc hKc hDc hN (va_recv hKc hPc (ci := 1) (q0 := 0) rfl rfl)) rfl rfl hl.1 rfl (lv_room (Nat.le_of_ble_eq_true rfl)) d_T_addInt_11 ⟨by decide +kernel, by decide +kernel⟩) hS (fun q _ h => hFc q h) hFc (fun u t H1 locs ht hvm hw hB hz1 hk1 hS => ?_)
  obtain ⟨k2_6, f2_7, hu_8, hP1, hK1, hD1⟩ := hB
  rw [ht] at hP1
  have hK1 := va_K.moved hvm.symm hK1
  try dsimp only at hw
  obtain ⟨hP, hD⟩ := va_join (wr := []) (w1 := [(h0, .inr (1, [.ref hy, .int (nI k2_6)])), (hy, .inl (cB, 256, .inl (f2_7)))]) hP hD [0, 1] [] rfl rfl (by decide) (by decide) hk1 hFc hP1 hD1
  generalize H1 = H at hP hS ⊢
  replace hP : va_P (dC, dI) vwCl [(h0, .inr (1, [.ref hy, .int (nI k2_6)])), (hy, .inl (cB, 256, .inl (f2_7)))] H := hP
  replace hD : va_D A [(h0, .inr (1, [.ref hy, .int (nI k2_6)])), (hy, .inl (cB, 256, .inl (f2_7)))] := hD
  replace hK : va_K (dC, dI) vwCl [(cB, .byte)] s := hK
  refine lv_iinc (v := 8) (lv' := [(2, .int 8), (0, .ref h0), (1, .int a1)]) hx hb d_T_addInt_14 hl (k := 0) rfl (by decide +kernel) (by decide) rfl (fun ls hl => ?_)
  refine lv_goto (tgt := 3) hx hb d_T_addInt_17 (by decide) ?_
  refine lv_iload_n hx hb d_T_addInt_3 rfl (lv_at hl 0 rfl) ?_
  refine lv_if_lt (tgt := 20) hx hb d_T_addInt_4 (by decide) (fun h9 => absurd h9 (by decide +kernel)) (fun _ => ?_)
  refine lv_aload_n hx hb d_T_addInt_7 rfl (lv_at hl 1 rfl) ?_
  refine lv_iload_n hx hb d_T_addInt_8 rfl (lv_at hl 2 rfl) ?_
  refine lv_iload_n hx hb d_T_addInt_9 rfl (lv_at hl 0 rfl) ?_
  refine lv_ishr hx hb d_T_addInt_10 ?_
  refine lv_topi (fun x_9 ex_9 => ?_)
  have hPc := hP.sub (ws' := [(h0, .inr (1, [.ref hy, .int (nI k2_6)])), (hy, .inl (cB, 256, .inl ((f2_7))))]) [0, 1] rfl
  have hKc := hK.sub (tys' := [(cB, .byte)]) [0] rfl
  have hDc := hD.sub (ws' := [(h0, .inr (1, [.ref hy, .int (nI k2_6)])), (hy, .inl (cB, 256, .inl ((f2_7))))]) [0, 1] (by decide) rfl
  have hFc := va_free (wc := [(h0, .inr (1, [.ref hy, .int (nI k2_6)])), (hy, .inl (cB, 256, .inl ((f2_7))))]) hD hS hA [0, 1] rfl
  refine va_callv (va_runV (As := [.int x_9]) (rest := []) ⟨hx, hb, hml, hown, hw0⟩ (c_addByte l dC dI H.size h0 hy cB k2_6 (f2_7) x_9 (by first | assumption | decide | omega)) (cwV 1 hw0 (gd_V 129 130 131 69 132 rfl rfl rfl rfl rfl) rfl rfl rfl (by decide +kernel) ⟨by decide +kernel, by decide +kernel⟩) (prV_E hPc hKc hDc hN (va_recv hKc hPc (ci := 1) (q0 := 0) rfl rfl)) rfl rfl hl.1 rfl (lv_room (Nat.le_of_ble_eq_true rfl)) d_T_addInt_11 ⟨by decide +kernel, by decide +kernel⟩) hS (fun q _ h => hFc q h) hFc (fun u t H1 locs ht hvm hw hB hz1 hk1 hS => ?_)
  obtain ⟨k2_10, f2_11, hu_12, hP1, hK1, hD1⟩ := hB
  rw [ht] at hP1
  have hK1 := va_K.moved hvm.symm hK1
  try dsimp only at hw
  obtain ⟨hP, hD⟩ := va_join (wr := []) (w1 := [(h0, .inr (1, [.ref hy, .int (nI k2_10)])), (hy, .inl (cB, 256, .inl (f2_11)))]) hP hD [0, 1] [] rfl rfl (by decide) (by decide) hk1 hFc hP1 hD1
  generalize H1 = H at hP hS ⊢
  replace hP : va_P (dC, dI) vwCl [(h0, .inr (1, [.ref hy, .int (nI k2_10)])), (hy, .inl (cB, 256, .inl (f2_11)))] H := hP
  replace hD : va_D A [(h0, .inr (1, [.ref hy, .int (nI k2_10)])), (hy, .inl (cB, 256, .inl (f2_11)))] := hD
  replace hK : va_K (dC, dI) vwCl [(cB, .byte)] s := hK
  refine lv_iinc (v := 0) (lv' := [(2, .int 0), (0, .ref h0), (1, .int a1)]) hx hb d_T_addInt_14 hl (k := 0) rfl (by decide +kernel) (by decide) rfl (fun ls hl => ?_)
  refine lv_goto (tgt := 3) hx hb d_T_addInt_17 (by decide) ?_
  refine lv_iload_n hx hb d_T_addInt_3 rfl (lv_at hl 0 rfl) ?_
  refine lv_if_lt (tgt := 20) hx hb d_T_addInt_4 (by decide) (fun h9 => absurd h9 (by decide +kernel)) (fun _ => ?_)
  refine lv_aload_n hx hb d_T_addInt_7 rfl (lv_at hl 1 rfl) ?_
  refine lv_iload_n hx hb d_T_addInt_8 rfl (lv_at hl 2 rfl) ?_
  refine lv_iload_n hx hb d_T_addInt_9 rfl (lv_at hl 0 rfl) ?_
  refine lv_ishr hx hb d_T_addInt_10 ?_
  refine lv_topi (fun x_13 ex_13 => ?_)
  have hPc := hP.sub (ws' := [(h0, .inr (1, [.ref hy, .int (nI k2_10)])), (hy, .inl (cB, 256, .inl ((f2_11))))]) [0, 1] rfl
  have hKc := hK.sub (tys' := [(cB, .byte)]) [0] rfl
  have hDc := hD.sub (ws' := [(h0, .inr (1, [.ref hy, .int (nI k2_10)])), (hy, .inl (cB, 256, .inl ((f2_11))))]) [0, 1] (by decide) rfl
  have hFc := va_free (wc := [(h0, .inr (1, [.ref hy, .int (nI k2_10)])), (hy, .inl (cB, 256, .inl ((f2_11))))]) hD hS hA [0, 1] rfl
  refine va_callv (va_runV (As := [.int x_13]) (rest := []) ⟨hx, hb, hml, hown, hw0⟩ (c_addByte l dC dI H.size h0 hy cB k2_10 (f2_11) x_13 (by first | assumption | decide | omega)) (cwV 1 hw0 (gd_V 129 130 131 69 132 rfl rfl rfl rfl rfl) rfl rfl rfl (by decide +kernel) ⟨by decide +kernel, by decide +kernel⟩) (prV_E hPc hKc hDc hN (va_recv hKc hPc (ci := 1) (q0 := 0) rfl rfl)) rfl rfl hl.1 rfl (lv_room (Nat.le_of_ble_eq_true rfl)) d_T_addInt_11 ⟨by decide +kernel, by decide +kernel⟩) hS (fun q _ h => hFc q h) hFc (fun u t H1 locs ht hvm hw hB hz1 hk1 hS => ?_)
  obtain ⟨k2_14, f2_15, hu_16, hP1, hK1, hD1⟩ := hB
  rw [ht] at hP1
  have hK1 := va_K.moved hvm.symm hK1
  try dsimp only at hw
  obtain ⟨hP, hD⟩ := va_join (wr := []) (w1 := [(h0, .inr (1, [.ref hy, .int (nI k2_14)])), (hy, .inl (cB, 256, .inl (f2_15)))]) hP hD [0, 1] [] rfl rfl (by decide) (by decide) hk1 hFc hP1 hD1
  generalize H1 = H at hP hS ⊢
  replace hP : va_P (dC, dI) vwCl [(h0, .inr (1, [.ref hy, .int (nI k2_14)])), (hy, .inl (cB, 256, .inl (f2_15)))] H := hP
  replace hD : va_D A [(h0, .inr (1, [.ref hy, .int (nI k2_14)])), (hy, .inl (cB, 256, .inl (f2_15)))] := hD
  replace hK : va_K (dC, dI) vwCl [(cB, .byte)] s := hK
  refine lv_iinc (v := (-8)) (lv' := [(2, .int (-8)), (0, .ref h0), (1, .int a1)]) hx hb d_T_addInt_14 hl (k := 0) rfl (by decide +kernel) (by decide) rfl (fun ls hl => ?_)
  refine lv_goto (tgt := 3) hx hb d_T_addInt_17 (by decide) ?_
  refine lv_iload_n hx hb d_T_addInt_3 rfl (lv_at hl 0 rfl) ?_
  refine lv_if_lt (tgt := 20) hx hb d_T_addInt_4 (by decide) (fun _ => ?_) (fun h9 => absurd h9 (by decide +kernel))
  have hP9 := hP.sub (ws' := [(h0, .inr (1, [.ref hy, .int (nI k2_14)])), (hy, .inl (cB, 256, .inl (f2_15)))]) [0, 1] rfl
  have hD9 := hD.sub (ws' := [(h0, .inr (1, [.ref hy, .int (nI k2_14)])), (hy, .inl (cB, 256, .inl (f2_15)))]) [0, 1] (by decide) rfl
  have hK9 := hK.sub (tys' := [(cB, .byte)]) [0] rfl
  exact W.vret hx hb hr (fun t ht hW => ⟨⟨(), rfl, trivial, k2_14, f2_15, (by assumption), by rw [ht]; exact hP9, va_K.moved hW.alike hK9, hD9⟩, hS.F ht⟩) hS.2.2 d_T_addInt_20
set_option maxHeartbeats 4000000 in
set_option maxRecDepth 100000 in
theorem c_feed (l : Launch) (dC : Nat → ClassId) (dI : Nat → Nat → Nat) (sz : Nat) (h0 : Nat) (v_documents : Value) (v_fetched : Value) (v_compared : Value) (v_maker : Value) (v_writer : Value) (i_madeDocuments : Int32) (i_fetchedSteps : Int32) (hp : Nat) (p_i_going : Int32) (p_i_writesLeft : Int32) (hb1 : Nat) (hy : Nat) (cB : ClassId) (f : Nat → Int32) (a1 : Int32) (a2 : Int32) (a3 : Int32) (a4 : Int32) (a5 : Int32)  : Met l y_K_feed k_K_feed ({ frames := 2, cells := 0, slots := 0, locals := 43 } : Room) (va_Pc [.ref h0, .int a1, .int a2, .int a3, .int a4, .int a5] (pc_E (dC, dI) [(h0, .inr (0, [v_documents, .ref hb1, v_fetched, v_compared, v_maker, v_writer, .ref hp, .int i_madeDocuments, .int i_fetchedSteps])), (hp, .inr (4, [.int 0, .int p_i_going, .int p_i_writesLeft])), (hb1, .inr (1, [.ref hy, .int 0])), (hy, .inl (cB, 256, .inl (f)))] [(cB, .byte)] sz)) (va_Qi (fun (r : Int32) (_ : Unit) => r = 1) (fun (_ : Unit) t => at_E (dC, dI) (va_A [(h0, .inr (0, [v_documents, .ref hb1, v_fetched, v_compared, v_maker, v_writer, .ref hp, .int i_madeDocuments, .int i_fetchedSteps])), (hp, .inr (4, [.int 0, .int p_i_going, .int p_i_writesLeft])), (hb1, .inr (1, [.ref hy, .int 0])), (hy, .inl (cB, 256, .inl (f)))] sz) [] [] t) (va_A [(h0, .inr (0, [v_documents, .ref hb1, v_fetched, v_compared, v_maker, v_writer, .ref hp, .int i_madeDocuments, .int i_fetchedSteps])), (hp, .inr (4, [.int 0, .int p_i_going, .int p_i_writesLeft])), (hb1, .inr (1, [.ref hy, .int 0])), (hy, .inl (cB, 256, .inl (f)))] sz)) 0 0 (va_A [(h0, .inr (0, [v_documents, .ref hb1, v_fetched, v_compared, v_maker, v_writer, .ref hp, .int i_madeDocuments, .int i_fetchedSteps])), (hp, .inr (4, [.int 0, .int p_i_going, .int p_i_writesLeft])), (hb1, .inr (1, [.ref hy, .int 0])), (hy, .inl (cB, 256, .inl (f)))] sz) := by
  refine Met.ofW (cc := prog_1_method_2_code) (maxL := 6) (ret := (some .boolean)) (by decide) rfl ?_
  intro p e s m args below meth c s₁ B hml hv
  obtain ⟨rfl, hsz, hP, hK, hD0, hN⟩ := hv
  have hx := B.exec
  have hb := B.bytes
  have hr := B.returns
  have hts := atoms_spec (ws := k_K_feed) B.pre
  have hw0 : ∀ w ∈ w0, w.before _ s = true := fun w h => hts w (List.mem_cons_of_mem _ h)
  have hown : s.vm.findClass R_K = some m.cls := findClass_of_methodNamed B.named
  have hlocks := B.notSynchronized
  subst hsz
  have hD := hD0.self (sz := s.heap.size)
  generalize hAe : va_A [(h0, .inr (0, [v_documents, .ref hb1, v_fetched, v_compared, v_maker, v_writer, .ref hp, .int i_madeDocuments, .int i_fetchedSteps])), (hp, .inr (4, [.int 0, .int p_i_going, .int p_i_writesLeft])), (hb1, .inr (1, [.ref hy, .int 0])), (hy, .inl (cB, 256, .inl (f)))] s.heap.size = A at hD ⊢
  have hA : ∀ q : Nat, s.heap.size ≤ q → A q := fun q h => by rw [← hAe]; exact Or.inr h
  have hS : va_S A s.heap s.heap [] := va_S.rf
  have hP : va_P (dC, dI) vwCl [(h0, .inr (0, [v_documents, .ref hb1, v_fetched, v_compared, v_maker, v_writer, .ref hp, .int i_madeDocuments, .int i_fetchedSteps])), (hp, .inr (4, [.int 0, .int p_i_going, .int p_i_writesLeft])), (hb1, .inr (1, [.ref hy, .int 0])), (hy, .inl (cB, 256, .inl (f)))] s.heap := hP
  have hl := lv_entry ([.ref h0, .int a1, .int a2, .int a3, .int a4, .int a5]) (n := 6) (Nat.le_of_ble_eq_true rfl)
  rw [lg_entry_eq]
  generalize (lg_sl ([.ref h0, .int a1, .int a2, .int a3, .int a4, .int a5]) ++ List.replicate (6 - (lg_sl ([.ref h0, .int a1, .int a2, .int a3, .int a4, .int a5])).length) Slot.unset).toArray = ls at hl ⊢
  have hl : lv_has ls 6 [(0, .ref h0), (1, .int a1), (2, .int a2), (3, .int a3), (4, .int a4), (5, .int a5)] := hl
  refine lv_aload_n hx hb d_K_feed_0 rfl (lv_at hl 0 rfl) ?_
  have hPc := hP.sub (ws' := [(h0, .inr (0, [v_documents, .ref hb1, v_fetched, v_compared, v_maker, v_writer, .ref hp, .int i_madeDocuments, .int i_fetchedSteps])), (hp, .inr (4, [.int 0, .int p_i_going, .int p_i_writesLeft]))]) [0, 1] rfl
  have hKc := hK.sub (tys' := []) [] rfl
  refine ps_v (va_runV (As := []) (rest := []) ⟨hx, hb, hml, hown, hw0⟩ (c_needPower l dC dI h0 v_documents (.ref hb1) v_fetched v_compared v_maker v_writer i_madeDocuments i_fetchedSteps hp p_i_going p_i_writesLeft) (cwV 0 hw0 (gd_V 113 114 115 111 116 rfl rfl rfl rfl rfl) rfl rfl rfl (by decide +kernel) ⟨by decide +kernel, by decide +kernel⟩) (prV_R hPc hKc hN (va_recv hKc hPc (ci := 0) (q0 := 0) rfl rfl)) rfl rfl hl.1 rfl (lv_room (Nat.le_of_ble_eq_true rfl)) d_K_feed_1 ⟨by decide +kernel, by decide +kernel⟩) ?_
  refine lv_aload_n hx hb d_K_feed_4 rfl (lv_at hl 0 rfl) ?_
  refine va_get (D := (dC, dI)) (ci := 0) (v := .ref hb1) (C := R_K) (T := F_K) (N := 9) hx hb hw0 in_K hown hK hP 0 rfl rfl 1 (by decide) (hw0 (.fieldLink R_K 18 "TextKeeper" "buffer" "LTextKeeper$Text;") (List.mem_of_getElem? (i := 82) rfl)) (fun _ h9 => h9) rfl d_K_feed_5 ?_
  refine lv_bipush (v := 20) hx hb d_K_feed_8 (by decide +kernel) ?_
  have hPc := hP.sub (ws' := [(hb1, .inr (1, [.ref hy, .int 0]))]) [2] rfl
  have hKc := hK.sub (tys' := []) [] rfl
  refine ps_i (va_runV (As := [.int 20]) (rest := []) ⟨hx, hb, hml, hown, hw0⟩ (c_hasRoom20 l dC dI hb1 (.ref hy)) (cwV 1 hw0 (gd_V 133 134 135 69 136 rfl rfl rfl rfl rfl) rfl rfl rfl (by decide +kernel) ⟨by decide +kernel, by decide +kernel⟩) (prV_R hPc hKc hN (va_recv hKc hPc (ci := 1) (q0 := 0) rfl rfl)) rfl rfl hl.1 rfl (lv_room (Nat.le_of_ble_eq_true rfl)) d_K_feed_10 ⟨by decide +kernel, by decide +kernel⟩) (fun r_1 hr_1 => ?_)
  obtain rfl : r_1 = 1 := hr_1
  refine lv_if_ne (tgt := 18) hx hb d_K_feed_13 (by decide) (fun _ => ?_) (fun h9 => absurd h9 (by decide +kernel))
  refine lv_aload_n hx hb d_K_feed_18 rfl (lv_at hl 0 rfl) ?_
  refine va_get (D := (dC, dI)) (ci := 0) (v := .ref hb1) (C := R_K) (T := F_K) (N := 9) hx hb hw0 in_K hown hK hP 0 rfl rfl 1 (by decide) (hw0 (.fieldLink R_K 18 "TextKeeper" "buffer" "LTextKeeper$Text;") (List.mem_of_getElem? (i := 82) rfl)) (fun _ h9 => h9) rfl d_K_feed_19 ?_
  refine lv_iload_n hx hb d_K_feed_22 rfl (lv_at hl 1 rfl) ?_
  have hPc := hP.sub (ws' := [(hb1, .inr (1, [.ref hy, .int (nI 0)])), (hy, .inl (cB, 256, .inl ((f))))]) [2, 3] rfl
  have hKc := hK.sub (tys' := [(cB, .byte)]) [0] rfl
  have hDc := hD.sub (ws' := [(hb1, .inr (1, [.ref hy, .int (nI 0)])), (hy, .inl (cB, 256, .inl ((f))))]) [2, 3] (by decide) rfl
  have hFc := va_free (wc := [(hb1, .inr (1, [.ref hy, .int (nI 0)])), (hy, .inl (cB, 256, .inl ((f))))]) hD hS hA [2, 3] rfl
  refine va_callv (va_runV (As := [.int a1]) (rest := []) ⟨hx, hb, hml, hown, hw0⟩ (c_addInt l dC dI s.heap.size hb1 hy cB 0 (f) a1 (by first | assumption | decide | omega)) (cwV 1 hw0 (gd_V 137 138 139 69 140 rfl rfl rfl rfl rfl) rfl rfl rfl (by decide +kernel) ⟨by decide +kernel, by decide +kernel⟩) (prV_E hPc hKc hDc hN (va_recv hKc hPc (ci := 1) (q0 := 0) rfl rfl)) rfl rfl hl.1 rfl (lv_room (Nat.le_of_ble_eq_true rfl)) d_K_feed_23 ⟨by decide +kernel, by decide +kernel⟩) hS (fun q _ h => hFc q h) hFc (fun u t H1 locs ht hvm hw hB hz1 hk1 hS => ?_)
  obtain ⟨k2_2, f2_3, hu_4, hP1, hK1, hD1⟩ := hB
  rw [ht] at hP1
  have hK1 := va_K.moved hvm.symm hK1
  try dsimp only at hw
  obtain ⟨hP, hD⟩ := va_join (wr := [(h0, .inr (0, [v_documents, .ref hb1, v_fetched, v_compared, v_maker, v_writer, .ref hp, .int i_madeDocuments, .int i_fetchedSteps])), (hp, .inr (4, [.int 0, .int p_i_going, .int p_i_writesLeft]))]) (w1 := [(hb1, .inr (1, [.ref hy, .int (nI k2_2)])), (hy, .inl (cB, 256, .inl (f2_3)))]) hP hD [2, 3] [0, 1] rfl rfl (by decide) (by decide) hk1 hFc hP1 hD1
  generalize H1 = H at hP hS ⊢
  replace hP : va_P (dC, dI) vwCl [(h0, .inr (0, [v_documents, .ref hb1, v_fetched, v_compared, v_maker, v_writer, .ref hp, .int i_madeDocuments, .int i_fetchedSteps])), (hp, .inr (4, [.int 0, .int p_i_going, .int p_i_writesLeft])), (hb1, .inr (1, [.ref hy, .int (nI k2_2)])), (hy, .inl (cB, 256, .inl (f2_3)))] H := hP
  replace hD : va_D A [(h0, .inr (0, [v_documents, .ref hb1, v_fetched, v_compared, v_maker, v_writer, .ref hp, .int i_madeDocuments, .int i_fetchedSteps])), (hp, .inr (4, [.int 0, .int p_i_going, .int p_i_writesLeft])), (hb1, .inr (1, [.ref hy, .int (nI k2_2)])), (hy, .inl (cB, 256, .inl (f2_3)))] := hD
  replace hK : va_K (dC, dI) vwCl [(cB, .byte)] s := hK
  refine lv_aload_n hx hb d_K_feed_26 rfl (lv_at hl 0 rfl) ?_
  refine va_get (D := (dC, dI)) (ci := 0) (v := .ref hb1) (C := R_K) (T := F_K) (N := 9) hx hb hw0 in_K hown hK hP 0 rfl rfl 1 (by decide) (hw0 (.fieldLink R_K 18 "TextKeeper" "buffer" "LTextKeeper$Text;") (List.mem_of_getElem? (i := 82) rfl)) (fun _ h9 => h9) rfl d_K_feed_27 ?_
  refine lv_iload_n hx hb d_K_feed_30 rfl (lv_at hl 2 rfl) ?_
  have hPc := hP.sub (ws' := [(hb1, .inr (1, [.ref hy, .int (nI k2_2)])), (hy, .inl (cB, 256, .inl ((f2_3))))]) [2, 3] rfl
  have hKc := hK.sub (tys' := [(cB, .byte)]) [0] rfl
  have hDc := hD.sub (ws' := [(hb1, .inr (1, [.ref hy, .int (nI k2_2)])), (hy, .inl (cB, 256, .inl ((f2_3))))]) [2, 3] (by decide) rfl
  have hFc := va_free (wc := [(hb1, .inr (1, [.ref hy, .int (nI k2_2)])), (hy, .inl (cB, 256, .inl ((f2_3))))]) hD hS hA [2, 3] rfl
  refine va_callv (va_runV (As := [.int a2]) (rest := []) ⟨hx, hb, hml, hown, hw0⟩ (c_addInt l dC dI H.size hb1 hy cB k2_2 (f2_3) a2 (by first | assumption | decide | omega)) (cwV 1 hw0 (gd_V 137 138 139 69 140 rfl rfl rfl rfl rfl) rfl rfl rfl (by decide +kernel) ⟨by decide +kernel, by decide +kernel⟩) (prV_E hPc hKc hDc hN (va_recv hKc hPc (ci := 1) (q0 := 0) rfl rfl)) rfl rfl hl.1 rfl (lv_room (Nat.le_of_ble_eq_true rfl)) d_K_feed_31 ⟨by decide +kernel, by decide +kernel⟩) hS (fun q _ h => hFc q h) hFc (fun u t H1 locs ht hvm hw hB hz1 hk1 hS => ?_)
  obtain ⟨k2_5, f2_6, hu_7, hP1, hK1, hD1⟩ := hB
  rw [ht] at hP1
  have hK1 := va_K.moved hvm.symm hK1
  try dsimp only at hw
  obtain ⟨hP, hD⟩ := va_join (wr := [(h0, .inr (0, [v_documents, .ref hb1, v_fetched, v_compared, v_maker, v_writer, .ref hp, .int i_madeDocuments, .int i_fetchedSteps])), (hp, .inr (4, [.int 0, .int p_i_going, .int p_i_writesLeft]))]) (w1 := [(hb1, .inr (1, [.ref hy, .int (nI k2_5)])), (hy, .inl (cB, 256, .inl (f2_6)))]) hP hD [2, 3] [0, 1] rfl rfl (by decide) (by decide) hk1 hFc hP1 hD1
  generalize H1 = H at hP hS ⊢
  replace hP : va_P (dC, dI) vwCl [(h0, .inr (0, [v_documents, .ref hb1, v_fetched, v_compared, v_maker, v_writer, .ref hp, .int i_madeDocuments, .int i_fetchedSteps])), (hp, .inr (4, [.int 0, .int p_i_going, .int p_i_writesLeft])), (hb1, .inr (1, [.ref hy, .int (nI k2_5)])), (hy, .inl (cB, 256, .inl (f2_6)))] H := hP
  replace hD : va_D A [(h0, .inr (0, [v_documents, .ref hb1, v_fetched, v_compared, v_maker, v_writer, .ref hp, .int i_madeDocuments, .int i_fetchedSteps])), (hp, .inr (4, [.int 0, .int p_i_going, .int p_i_writesLeft])), (hb1, .inr (1, [.ref hy, .int (nI k2_5)])), (hy, .inl (cB, 256, .inl (f2_6)))] := hD
  replace hK : va_K (dC, dI) vwCl [(cB, .byte)] s := hK
  refine lv_aload_n hx hb d_K_feed_34 rfl (lv_at hl 0 rfl) ?_
  refine va_get (D := (dC, dI)) (ci := 0) (v := .ref hb1) (C := R_K) (T := F_K) (N := 9) hx hb hw0 in_K hown hK hP 0 rfl rfl 1 (by decide) (hw0 (.fieldLink R_K 18 "TextKeeper" "buffer" "LTextKeeper$Text;") (List.mem_of_getElem? (i := 82) rfl)) (fun _ h9 => h9) rfl d_K_feed_35 ?_
  refine lv_iload_n hx hb d_K_feed_38 rfl (lv_at hl 3 rfl) ?_
  have hPc := hP.sub (ws' := [(hb1, .inr (1, [.ref hy, .int (nI k2_5)])), (hy, .inl (cB, 256, .inl ((f2_6))))]) [2, 3] rfl
  have hKc := hK.sub (tys' := [(cB, .byte)]) [0] rfl
  have hDc := hD.sub (ws' := [(hb1, .inr (1, [.ref hy, .int (nI k2_5)])), (hy, .inl (cB, 256, .inl ((f2_6))))]) [2, 3] (by decide) rfl
  have hFc := va_free (wc := [(hb1, .inr (1, [.ref hy, .int (nI k2_5)])), (hy, .inl (cB, 256, .inl ((f2_6))))]) hD hS hA [2, 3] rfl
  refine va_callv (va_runV (As := [.int a3]) (rest := []) ⟨hx, hb, hml, hown, hw0⟩ (c_addInt l dC dI H.size hb1 hy cB k2_5 (f2_6) a3 (by first | assumption | decide | omega)) (cwV 1 hw0 (gd_V 137 138 139 69 140 rfl rfl rfl rfl rfl) rfl rfl rfl (by decide +kernel) ⟨by decide +kernel, by decide +kernel⟩) (prV_E hPc hKc hDc hN (va_recv hKc hPc (ci := 1) (q0 := 0) rfl rfl)) rfl rfl hl.1 rfl (lv_room (Nat.le_of_ble_eq_true rfl)) d_K_feed_39 ⟨by decide +kernel, by decide +kernel⟩) hS (fun q _ h => hFc q h) hFc (fun u t H1 locs ht hvm hw hB hz1 hk1 hS => ?_)
  obtain ⟨k2_8, f2_9, hu_10, hP1, hK1, hD1⟩ := hB
  rw [ht] at hP1
  have hK1 := va_K.moved hvm.symm hK1
  try dsimp only at hw
  obtain ⟨hP, hD⟩ := va_join (wr := [(h0, .inr (0, [v_documents, .ref hb1, v_fetched, v_compared, v_maker, v_writer, .ref hp, .int i_madeDocuments, .int i_fetchedSteps])), (hp, .inr (4, [.int 0, .int p_i_going, .int p_i_writesLeft]))]) (w1 := [(hb1, .inr (1, [.ref hy, .int (nI k2_8)])), (hy, .inl (cB, 256, .inl (f2_9)))]) hP hD [2, 3] [0, 1] rfl rfl (by decide) (by decide) hk1 hFc hP1 hD1
  generalize H1 = H at hP hS ⊢
  replace hP : va_P (dC, dI) vwCl [(h0, .inr (0, [v_documents, .ref hb1, v_fetched, v_compared, v_maker, v_writer, .ref hp, .int i_madeDocuments, .int i_fetchedSteps])), (hp, .inr (4, [.int 0, .int p_i_going, .int p_i_writesLeft])), (hb1, .inr (1, [.ref hy, .int (nI k2_8)])), (hy, .inl (cB, 256, .inl (f2_9)))] H := hP
  replace hD : va_D A [(h0, .inr (0, [v_documents, .ref hb1, v_fetched, v_compared, v_maker, v_writer, .ref hp, .int i_madeDocuments, .int i_fetchedSteps])), (hp, .inr (4, [.int 0, .int p_i_going, .int p_i_writesLeft])), (hb1, .inr (1, [.ref hy, .int (nI k2_8)])), (hy, .inl (cB, 256, .inl (f2_9)))] := hD
  replace hK : va_K (dC, dI) vwCl [(cB, .byte)] s := hK
  refine lv_aload_n hx hb d_K_feed_42 rfl (lv_at hl 0 rfl) ?_
  refine va_get (D := (dC, dI)) (ci := 0) (v := .ref hb1) (C := R_K) (T := F_K) (N := 9) hx hb hw0 in_K hown hK hP 0 rfl rfl 1 (by decide) (hw0 (.fieldLink R_K 18 "TextKeeper" "buffer" "LTextKeeper$Text;") (List.mem_of_getElem? (i := 82) rfl)) (fun _ h9 => h9) rfl d_K_feed_43 ?_
  refine lv_iload hx hb d_K_feed_46 (lv_at hl 4 rfl) ?_
  have hPc := hP.sub (ws' := [(hb1, .inr (1, [.ref hy, .int (nI k2_8)])), (hy, .inl (cB, 256, .inl ((f2_9))))]) [2, 3] rfl
  have hKc := hK.sub (tys' := [(cB, .byte)]) [0] rfl
  have hDc := hD.sub (ws' := [(hb1, .inr (1, [.ref hy, .int (nI k2_8)])), (hy, .inl (cB, 256, .inl ((f2_9))))]) [2, 3] (by decide) rfl
  have hFc := va_free (wc := [(hb1, .inr (1, [.ref hy, .int (nI k2_8)])), (hy, .inl (cB, 256, .inl ((f2_9))))]) hD hS hA [2, 3] rfl
  refine va_callv (va_runV (As := [.int a4]) (rest := []) ⟨hx, hb, hml, hown, hw0⟩ (c_addInt l dC dI H.size hb1 hy cB k2_8 (f2_9) a4 (by first | assumption | decide | omega)) (cwV 1 hw0 (gd_V 137 138 139 69 140 rfl rfl rfl rfl rfl) rfl rfl rfl (by decide +kernel) ⟨by decide +kernel, by decide +kernel⟩) (prV_E hPc hKc hDc hN (va_recv hKc hPc (ci := 1) (q0 := 0) rfl rfl)) rfl rfl hl.1 rfl (lv_room (Nat.le_of_ble_eq_true rfl)) d_K_feed_48 ⟨by decide +kernel, by decide +kernel⟩) hS (fun q _ h => hFc q h) hFc (fun u t H1 locs ht hvm hw hB hz1 hk1 hS => ?_)
  obtain ⟨k2_11, f2_12, hu_13, hP1, hK1, hD1⟩ := hB
  rw [ht] at hP1
  have hK1 := va_K.moved hvm.symm hK1
  try dsimp only at hw
  obtain ⟨hP, hD⟩ := va_join (wr := [(h0, .inr (0, [v_documents, .ref hb1, v_fetched, v_compared, v_maker, v_writer, .ref hp, .int i_madeDocuments, .int i_fetchedSteps])), (hp, .inr (4, [.int 0, .int p_i_going, .int p_i_writesLeft]))]) (w1 := [(hb1, .inr (1, [.ref hy, .int (nI k2_11)])), (hy, .inl (cB, 256, .inl (f2_12)))]) hP hD [2, 3] [0, 1] rfl rfl (by decide) (by decide) hk1 hFc hP1 hD1
  generalize H1 = H at hP hS ⊢
  replace hP : va_P (dC, dI) vwCl [(h0, .inr (0, [v_documents, .ref hb1, v_fetched, v_compared, v_maker, v_writer, .ref hp, .int i_madeDocuments, .int i_fetchedSteps])), (hp, .inr (4, [.int 0, .int p_i_going, .int p_i_writesLeft])), (hb1, .inr (1, [.ref hy, .int (nI k2_11)])), (hy, .inl (cB, 256, .inl (f2_12)))] H := hP
  replace hD : va_D A [(h0, .inr (0, [v_documents, .ref hb1, v_fetched, v_compared, v_maker, v_writer, .ref hp, .int i_madeDocuments, .int i_fetchedSteps])), (hp, .inr (4, [.int 0, .int p_i_going, .int p_i_writesLeft])), (hb1, .inr (1, [.ref hy, .int (nI k2_11)])), (hy, .inl (cB, 256, .inl (f2_12)))] := hD
  replace hK : va_K (dC, dI) vwCl [(cB, .byte)] s := hK
  refine lv_aload_n hx hb d_K_feed_51 rfl (lv_at hl 0 rfl) ?_
  refine va_get (D := (dC, dI)) (ci := 0) (v := .ref hb1) (C := R_K) (T := F_K) (N := 9) hx hb hw0 in_K hown hK hP 0 rfl rfl 1 (by decide) (hw0 (.fieldLink R_K 18 "TextKeeper" "buffer" "LTextKeeper$Text;") (List.mem_of_getElem? (i := 82) rfl)) (fun _ h9 => h9) rfl d_K_feed_52 ?_
  refine lv_iload hx hb d_K_feed_55 (lv_at hl 5 rfl) ?_
  have hPc := hP.sub (ws' := [(hb1, .inr (1, [.ref hy, .int (nI k2_11)])), (hy, .inl (cB, 256, .inl ((f2_12))))]) [2, 3] rfl
  have hKc := hK.sub (tys' := [(cB, .byte)]) [0] rfl
  have hDc := hD.sub (ws' := [(hb1, .inr (1, [.ref hy, .int (nI k2_11)])), (hy, .inl (cB, 256, .inl ((f2_12))))]) [2, 3] (by decide) rfl
  have hFc := va_free (wc := [(hb1, .inr (1, [.ref hy, .int (nI k2_11)])), (hy, .inl (cB, 256, .inl ((f2_12))))]) hD hS hA [2, 3] rfl
  refine va_callv (va_runV (As := [.int a5]) (rest := []) ⟨hx, hb, hml, hown, hw0⟩ (c_addInt l dC dI H.size hb1 hy cB k2_11 (f2_12) a5 (by first | assumption | decide | omega)) (cwV 1 hw0 (gd_V 137 138 139 69 140 rfl rfl rfl rfl rfl) rfl rfl rfl (by decide +kernel) ⟨by decide +kernel, by decide +kernel⟩) (prV_E hPc hKc hDc hN (va_recv hKc hPc (ci := 1) (q0 := 0) rfl rfl)) rfl rfl hl.1 rfl (lv_room (Nat.le_of_ble_eq_true rfl)) d_K_feed_57 ⟨by decide +kernel, by decide +kernel⟩) hS (fun q _ h => hFc q h) hFc (fun u t H1 locs ht hvm hw hB hz1 hk1 hS => ?_)
  obtain ⟨k2_14, f2_15, hu_16, hP1, hK1, hD1⟩ := hB
  rw [ht] at hP1
  have hK1 := va_K.moved hvm.symm hK1
  try dsimp only at hw
  obtain ⟨hP, hD⟩ := va_join (wr := [(h0, .inr (0, [v_documents, .ref hb1, v_fetched, v_compared, v_maker, v_writer, .ref hp, .int i_madeDocuments, .int i_fetchedSteps])), (hp, .inr (4, [.int 0, .int p_i_going, .int p_i_writesLeft]))]) (w1 := [(hb1, .inr (1, [.ref hy, .int (nI k2_14)])), (hy, .inl (cB, 256, .inl (f2_15)))]) hP hD [2, 3] [0, 1] rfl rfl (by decide) (by decide) hk1 hFc hP1 hD1
  generalize H1 = H at hP hS ⊢
  replace hP : va_P (dC, dI) vwCl [(h0, .inr (0, [v_documents, .ref hb1, v_fetched, v_compared, v_maker, v_writer, .ref hp, .int i_madeDocuments, .int i_fetchedSteps])), (hp, .inr (4, [.int 0, .int p_i_going, .int p_i_writesLeft])), (hb1, .inr (1, [.ref hy, .int (nI k2_14)])), (hy, .inl (cB, 256, .inl (f2_15)))] H := hP
  replace hD : va_D A [(h0, .inr (0, [v_documents, .ref hb1, v_fetched, v_compared, v_maker, v_writer, .ref hp, .int i_madeDocuments, .int i_fetchedSteps])), (hp, .inr (4, [.int 0, .int p_i_going, .int p_i_writesLeft])), (hb1, .inr (1, [.ref hy, .int (nI k2_14)])), (hy, .inl (cB, 256, .inl (f2_15)))] := hD
  replace hK : va_K (dC, dI) vwCl [(cB, .byte)] s := hK
  refine lv_iconst (v := 1) hx hb d_K_feed_60 (by decide) ?_
  have hP9 := hP.sub (ws' := []) [] rfl
  have hD9 := hD.sub (ws' := []) [] (by decide) rfl
  have hK9 := hK.sub (tys' := []) [] rfl
  exact W.zret (v := 1) (ty := .boolean) hx hb hr rfl (fun t ht hW => ⟨⟨1, (), rfl, rfl, by rw [ht]; exact hP9, va_K.moved hW.alike hK9, hD9⟩, hS.F ht⟩) hS.2.2 d_K_feed_61
set_option maxHeartbeats 4000000 in
set_option maxRecDepth 100000 in
theorem c_shorten_T (l : Launch) (dC : Nat → ClassId) (dI : Nat → Nat → Nat) (sz : Nat) (h0 : Nat) (hy : Value) (a1 : Int32) (h1 : ¬ a1 < 0) (h2 : ¬ 0 < a1) : Met l y_T_shorten k_T_shorten ({ frames := 0, cells := 0, slots := 0, locals := 0 } : Room) (va_Pc [.ref h0, .int a1] (pc_E (dC, dI) [(h0, .inr (1, [hy, .int 0]))] [] sz)) (va_Qi (fun (r : Int32) (_ : Unit) => r = 1) (fun (_ : Unit) t => at_E (dC, dI) (va_A [(h0, .inr (1, [hy, .int 0]))] sz) [] [] t) (va_A [(h0, .inr (1, [hy, .int 0]))] sz)) 0 0 (va_A [(h0, .inr (1, [hy, .int 0]))] sz) := by
  refine Met.ofW (cc := prog_7_method_6_code) (maxL := 2) (ret := (some .boolean)) (by decide) rfl ?_
  intro p e s m args below meth c s₁ B hml hv
  obtain ⟨rfl, hsz, hP, hK, hD0, hN⟩ := hv
  have hx := B.exec
  have hb := B.bytes
  have hr := B.returns
  have hts := atoms_spec (ws := k_T_shorten) B.pre
  have hw0 : ∀ w ∈ w0, w.before _ s = true := fun w h => hts w (List.mem_cons_of_mem _ h)
  have hown : s.vm.findClass R_T = some m.cls := findClass_of_methodNamed B.named
  have hlocks := B.notSynchronized
  subst hsz
  have hD := hD0.self (sz := s.heap.size)
  generalize hAe : va_A [(h0, .inr (1, [hy, .int 0]))] s.heap.size = A at hD ⊢
  have hA : ∀ q : Nat, s.heap.size ≤ q → A q := fun q h => by rw [← hAe]; exact Or.inr h
  have hS : va_S A s.heap s.heap [] := va_S.rf
  have hP : va_P (dC, dI) vwCl [(h0, .inr (1, [hy, .int 0]))] s.heap := hP
  have hl := lv_entry ([.ref h0, .int a1]) (n := 2) (Nat.le_of_ble_eq_true rfl)
  rw [lg_entry_eq]
  generalize (lg_sl ([.ref h0, .int a1]) ++ List.replicate (2 - (lg_sl ([.ref h0, .int a1])).length) Slot.unset).toArray = ls at hl ⊢
  have hl : lv_has ls 2 [(0, .ref h0), (1, .int a1)] := hl
  refine lv_iload_n hx hb d_T_shorten_0 rfl (lv_at hl 1 rfl) ?_
  refine lv_if_lt (tgt := 12) hx hb d_T_shorten_1 (by decide) (fun c_1 => absurd c_1 h1) (fun c_1 => ?_)
  refine lv_iload_n hx hb d_T_shorten_4 rfl (lv_at hl 1 rfl) ?_
  refine lv_aload_n hx hb d_T_shorten_5 rfl (lv_at hl 0 rfl) ?_
  refine va_get (D := (dC, dI)) (ci := 1) (v := .int 0) (C := R_T) (T := F_T) (N := 2) hx hb hw0 in_T hown hK hP 0 rfl rfl 1 (by decide) (hw0 (.fieldLink R_T 15 "TextKeeper$Text" "length" "I") (List.mem_of_getElem? (i := 62) rfl)) (fun _ h9 => h9) rfl d_T_shorten_6 ?_
  refine lv_icmp_le (tgt := 14) hx hb d_T_shorten_9 (by decide) (fun c_2 => ?_) (fun c_2 => absurd (Int32.not_lt.mp h2) c_2)
  refine lv_aload_n hx hb d_T_shorten_14 rfl (lv_at hl 0 rfl) ?_
  refine lv_iload_n hx hb d_T_shorten_15 rfl (lv_at hl 1 rfl) ?_
  refine va_put (D := (dC, dI)) (ci := 1) (v := .int a1) (ty := .int) (C := R_T) (T := F_T) (N := 2) hx hb hw0 in_T ft_T tk_T nk_T hown hK hP hD hS 0 rfl rfl 1 (by decide) (hw0 (.fieldLink R_T 15 "TextKeeper$Text" "length" "I") (List.mem_of_getElem? (i := 62) rfl)) (fun _ h9 => h9) rfl (by decide +kernel) rfl rfl (Nat.le_of_ble_eq_true rfl) d_T_shorten_16 (fun H locs hP hD hS => ?_)
  replace hP : va_P (dC, dI) vwCl [(h0, .inr (1, [hy, .int a1]))] H := hP
  replace hD : va_D A [(h0, .inr (1, [hy, .int a1]))] := hD
  refine lv_iconst (v := 1) hx hb d_T_shorten_19 (by decide) ?_
  have hP9 := hP.sub (ws' := []) [] rfl
  have hD9 := hD.sub (ws' := []) [] (by decide) rfl
  have hK9 := hK.sub (tys' := []) [] rfl
  exact W.zret (v := 1) (ty := .boolean) hx hb hr rfl (fun t ht hW => ⟨⟨1, (), rfl, rfl, by rw [ht]; exact hP9, va_K.moved hW.alike hK9, hD9⟩, hS.F ht⟩) hS.2.2 d_T_shorten_20
set_option maxHeartbeats 4000000 in
set_option maxRecDepth 100000 in
theorem c_shorten_F (l : Launch) (dC : Nat → ClassId) (dI : Nat → Nat → Nat) (h0 : Nat) (hy : Value) (a1 : Int32) (h1 : a1 < 0 ∨ 0 < a1) : Met l y_T_shorten k_T_shorten ({ frames := 0, cells := 0, slots := 0, locals := 0 } : Room) (va_Pc [.ref h0, .int a1] (pc_R (dC, dI) [(h0, .inr (1, [hy, .int 0]))] [])) (vp_Si (fun r => r = 0)) 0 0 (fun _ => False) := by
  refine Met.ofW (cc := prog_7_method_6_code) (maxL := 2) (ret := (some .boolean)) (by decide) rfl ?_
  intro p e s m args below meth c s₁ B hml hv
  obtain ⟨rfl, hP, hK, hN⟩ := hv
  have hx := B.exec
  have hb := B.bytes
  have hr := B.returns
  have hts := atoms_spec (ws := k_T_shorten) B.pre
  have hw0 : ∀ w ∈ w0, w.before _ s = true := fun w h => hts w (List.mem_cons_of_mem _ h)
  have hown : s.vm.findClass R_T = some m.cls := findClass_of_methodNamed B.named
  have hlocks := B.notSynchronized
  have hP : va_P (dC, dI) vwCl [(h0, .inr (1, [hy, .int 0]))] s.heap := hP
  have hl := lv_entry ([.ref h0, .int a1]) (n := 2) (Nat.le_of_ble_eq_true rfl)
  rw [lg_entry_eq]
  generalize (lg_sl ([.ref h0, .int a1]) ++ List.replicate (2 - (lg_sl ([.ref h0, .int a1])).length) Slot.unset).toArray = ls at hl ⊢
  have hl : lv_has ls 2 [(0, .ref h0), (1, .int a1)] := hl
  refine lv_iload_n hx hb d_T_shorten_0 rfl (lv_at hl 1 rfl) ?_
  refine lv_if_lt (tgt := 12) hx hb d_T_shorten_1 (by decide) (fun c_1 => ?_) (fun c_1 => ?_)
  · refine lv_iconst (v := 0) hx hb d_T_shorten_12 (by decide) ?_
    exact W.zret (v := 0) (ty := .boolean) hx hb hr rfl (fun t ht hW => ⟨0, rfl, rfl, ht⟩) (fun q h => by cases h) d_T_shorten_13
  · refine lv_iload_n hx hb d_T_shorten_4 rfl (lv_at hl 1 rfl) ?_
    refine lv_aload_n hx hb d_T_shorten_5 rfl (lv_at hl 0 rfl) ?_
    refine va_get (D := (dC, dI)) (ci := 1) (v := .int 0) (C := R_T) (T := F_T) (N := 2) hx hb hw0 in_T hown hK hP 0 rfl rfl 1 (by decide) (hw0 (.fieldLink R_T 15 "TextKeeper$Text" "length" "I") (List.mem_of_getElem? (i := 62) rfl)) (fun _ h9 => h9) rfl d_T_shorten_6 ?_
    refine lv_icmp_le (tgt := 14) hx hb d_T_shorten_9 (by decide) (fun c_2 => absurd c_2 (fun h9 => h1.elim (fun h => c_1 h) (fun h => Int32.not_le.mpr h h9))) (fun c_2 => ?_)
    refine lv_iconst (v := 0) hx hb d_T_shorten_12 (by decide) ?_
    exact W.zret (v := 0) (ty := .boolean) hx hb hr rfl (fun t ht hW => ⟨0, rfl, rfl, ht⟩) (fun q h => by cases h) d_T_shorten_13
set_option maxHeartbeats 4000000 in
set_option maxRecDepth 100000 in
theorem c_end_T (l : Launch) (dC : Nat → ClassId) (dI : Nat → Nat → Nat) (sz : Nat) (h0 : Nat) (v_documents : Value) (v_fetched : Value) (v_compared : Value) (v_maker : Value) (v_writer : Value) (i_madeDocuments : Int32) (i_fetchedSteps : Int32) (hp : Nat) (p_i_going : Int32) (p_i_writesLeft : Int32) (hb1 : Nat) (hy : Value) (a1 : Int32) (h1 : ¬ a1 < 0) (h2 : ¬ 0 < a1) : Met l y_K_end k_K_end ({ frames := 1, cells := 0, slots := 0, locals := 21 } : Room) (va_Pc [.ref h0, .int a1] (pc_E (dC, dI) [(h0, .inr (0, [v_documents, .ref hb1, v_fetched, v_compared, v_maker, v_writer, .ref hp, .int i_madeDocuments, .int i_fetchedSteps])), (hp, .inr (4, [.int 0, .int p_i_going, .int p_i_writesLeft])), (hb1, .inr (1, [hy, .int 0]))] [] sz)) (va_Qi (fun (r : Int32) (_ : Unit) => r = 1) (fun (_ : Unit) t => at_E (dC, dI) (va_A [(h0, .inr (0, [v_documents, .ref hb1, v_fetched, v_compared, v_maker, v_writer, .ref hp, .int i_madeDocuments, .int i_fetchedSteps])), (hp, .inr (4, [.int 0, .int p_i_going, .int p_i_writesLeft])), (hb1, .inr (1, [hy, .int 0]))] sz) [] [] t) (va_A [(h0, .inr (0, [v_documents, .ref hb1, v_fetched, v_compared, v_maker, v_writer, .ref hp, .int i_madeDocuments, .int i_fetchedSteps])), (hp, .inr (4, [.int 0, .int p_i_going, .int p_i_writesLeft])), (hb1, .inr (1, [hy, .int 0]))] sz)) 0 0 (va_A [(h0, .inr (0, [v_documents, .ref hb1, v_fetched, v_compared, v_maker, v_writer, .ref hp, .int i_madeDocuments, .int i_fetchedSteps])), (hp, .inr (4, [.int 0, .int p_i_going, .int p_i_writesLeft])), (hb1, .inr (1, [hy, .int 0]))] sz) := by
  refine Met.ofW (cc := prog_1_method_3_code) (maxL := 2) (ret := (some .boolean)) (by decide) rfl ?_
  intro p e s m args below meth c s₁ B hml hv
  obtain ⟨rfl, hsz, hP, hK, hD0, hN⟩ := hv
  have hx := B.exec
  have hb := B.bytes
  have hr := B.returns
  have hts := atoms_spec (ws := k_K_end) B.pre
  have hw0 : ∀ w ∈ w0, w.before _ s = true := fun w h => hts w (List.mem_cons_of_mem _ h)
  have hown : s.vm.findClass R_K = some m.cls := findClass_of_methodNamed B.named
  have hlocks := B.notSynchronized
  subst hsz
  have hD := hD0.self (sz := s.heap.size)
  generalize hAe : va_A [(h0, .inr (0, [v_documents, .ref hb1, v_fetched, v_compared, v_maker, v_writer, .ref hp, .int i_madeDocuments, .int i_fetchedSteps])), (hp, .inr (4, [.int 0, .int p_i_going, .int p_i_writesLeft])), (hb1, .inr (1, [hy, .int 0]))] s.heap.size = A at hD ⊢
  have hA : ∀ q : Nat, s.heap.size ≤ q → A q := fun q h => by rw [← hAe]; exact Or.inr h
  have hS : va_S A s.heap s.heap [] := va_S.rf
  have hP : va_P (dC, dI) vwCl [(h0, .inr (0, [v_documents, .ref hb1, v_fetched, v_compared, v_maker, v_writer, .ref hp, .int i_madeDocuments, .int i_fetchedSteps])), (hp, .inr (4, [.int 0, .int p_i_going, .int p_i_writesLeft])), (hb1, .inr (1, [hy, .int 0]))] s.heap := hP
  have hl := lv_entry ([.ref h0, .int a1]) (n := 2) (Nat.le_of_ble_eq_true rfl)
  rw [lg_entry_eq]
  generalize (lg_sl ([.ref h0, .int a1]) ++ List.replicate (2 - (lg_sl ([.ref h0, .int a1])).length) Slot.unset).toArray = ls at hl ⊢
  have hl : lv_has ls 2 [(0, .ref h0), (1, .int a1)] := hl
  refine lv_aload_n hx hb d_K_end_0 rfl (lv_at hl 0 rfl) ?_
  have hPc := hP.sub (ws' := [(h0, .inr (0, [v_documents, .ref hb1, v_fetched, v_compared, v_maker, v_writer, .ref hp, .int i_madeDocuments, .int i_fetchedSteps])), (hp, .inr (4, [.int 0, .int p_i_going, .int p_i_writesLeft]))]) [0, 1] rfl
  have hKc := hK.sub (tys' := []) [] rfl
  refine ps_v (va_runV (As := []) (rest := []) ⟨hx, hb, hml, hown, hw0⟩ (c_needPower l dC dI h0 v_documents (.ref hb1) v_fetched v_compared v_maker v_writer i_madeDocuments i_fetchedSteps hp p_i_going p_i_writesLeft) (cwV 0 hw0 (gd_V 113 114 115 111 116 rfl rfl rfl rfl rfl) rfl rfl rfl (by decide +kernel) ⟨by decide +kernel, by decide +kernel⟩) (prV_R hPc hKc hN (va_recv hKc hPc (ci := 0) (q0 := 0) rfl rfl)) rfl rfl hl.1 rfl (lv_room (Nat.le_of_ble_eq_true rfl)) d_K_end_1 ⟨by decide +kernel, by decide +kernel⟩) ?_
  refine lv_aload_n hx hb d_K_end_4 rfl (lv_at hl 0 rfl) ?_
  refine va_get (D := (dC, dI)) (ci := 0) (v := .ref hb1) (C := R_K) (T := F_K) (N := 9) hx hb hw0 in_K hown hK hP 0 rfl rfl 1 (by decide) (hw0 (.fieldLink R_K 18 "TextKeeper" "buffer" "LTextKeeper$Text;") (List.mem_of_getElem? (i := 82) rfl)) (fun _ h9 => h9) rfl d_K_end_5 ?_
  refine lv_iload_n hx hb d_K_end_8 rfl (lv_at hl 1 rfl) ?_
  have hPc := hP.sub (ws' := [(hb1, .inr (1, [hy, .int 0]))]) [2] rfl
  have hKc := hK.sub (tys' := []) [] rfl
  have hDc := hD.sub (ws' := [(hb1, .inr (1, [hy, .int 0]))]) [2] (by decide) rfl
  have hFc := va_free (wc := [(hb1, .inr (1, [hy, .int 0]))]) hD hS hA [2] rfl
  refine va_calli (va_runV (As := [.int a1]) (rest := []) ⟨hx, hb, hml, hown, hw0⟩ (c_shorten_T l dC dI s.heap.size hb1 hy a1 (by first | assumption | decide | omega) (by first | assumption | decide | omega)) (cwV 1 hw0 (gd_V 141 142 143 69 144 rfl rfl rfl rfl rfl) rfl rfl rfl (by decide +kernel) ⟨by decide +kernel, by decide +kernel⟩) (prV_E hPc hKc hDc hN (va_recv hKc hPc (ci := 1) (q0 := 0) rfl rfl)) rfl rfl hl.1 rfl (lv_room (Nat.le_of_ble_eq_true rfl)) d_K_end_9 ⟨by decide +kernel, by decide +kernel⟩) hS (fun q _ h => hFc q h) hFc (fun r_1 u t H1 locs ht hvm hw hB hz1 hk1 hS => ?_)
  obtain ⟨hP1, hK1, hD1⟩ := hB
  rw [ht] at hP1
  have hK1 := va_K.moved hvm.symm hK1
  try dsimp only at hw
  obtain ⟨hP, hD⟩ := va_join (wr := [(h0, .inr (0, [v_documents, .ref hb1, v_fetched, v_compared, v_maker, v_writer, .ref hp, .int i_madeDocuments, .int i_fetchedSteps])), (hp, .inr (4, [.int 0, .int p_i_going, .int p_i_writesLeft]))]) (w1 := []) hP hD [2] [0, 1] rfl rfl (by decide) (by decide) hk1 hFc hP1 hD1
  generalize H1 = H at hP hS ⊢
  replace hP : va_P (dC, dI) vwCl [(h0, .inr (0, [v_documents, .ref hb1, v_fetched, v_compared, v_maker, v_writer, .ref hp, .int i_madeDocuments, .int i_fetchedSteps])), (hp, .inr (4, [.int 0, .int p_i_going, .int p_i_writesLeft]))] H := hP
  replace hD : va_D A [(h0, .inr (0, [v_documents, .ref hb1, v_fetched, v_compared, v_maker, v_writer, .ref hp, .int i_madeDocuments, .int i_fetchedSteps])), (hp, .inr (4, [.int 0, .int p_i_going, .int p_i_writesLeft]))] := hD
  replace hK : va_K (dC, dI) vwCl [] s := hK
  obtain rfl : r_1 = 1 := hw
  have hP9 := hP.sub (ws' := []) [] rfl
  have hD9 := hD.sub (ws' := []) [] (by decide) rfl
  have hK9 := hK.sub (tys' := []) [] rfl
  exact W.zret (v := 1) (ty := .boolean) hx hb hr rfl (fun t ht hW => ⟨⟨1, (), rfl, rfl, by rw [ht]; exact hP9, va_K.moved hW.alike hK9, hD9⟩, hS.F ht⟩) hS.2.2 d_K_end_12
set_option maxHeartbeats 4000000 in
set_option maxRecDepth 100000 in
theorem c_end_F (l : Launch) (dC : Nat → ClassId) (dI : Nat → Nat → Nat) (h0 : Nat) (v_documents : Value) (v_fetched : Value) (v_compared : Value) (v_maker : Value) (v_writer : Value) (i_madeDocuments : Int32) (i_fetchedSteps : Int32) (hp : Nat) (p_i_going : Int32) (p_i_writesLeft : Int32) (hb1 : Nat) (hy : Value) (a1 : Int32) (h1 : a1 < 0 ∨ 0 < a1) : Met l y_K_end k_K_end ({ frames := 1, cells := 0, slots := 0, locals := 21 } : Room) (va_Pc [.ref h0, .int a1] (pc_R (dC, dI) [(h0, .inr (0, [v_documents, .ref hb1, v_fetched, v_compared, v_maker, v_writer, .ref hp, .int i_madeDocuments, .int i_fetchedSteps])), (hp, .inr (4, [.int 0, .int p_i_going, .int p_i_writesLeft])), (hb1, .inr (1, [hy, .int 0]))] [])) (vp_Si (fun r => r = 0)) 0 0 (fun _ => False) := by
  refine Met.ofW (cc := prog_1_method_3_code) (maxL := 2) (ret := (some .boolean)) (by decide) rfl ?_
  intro p e s m args below meth c s₁ B hml hv
  obtain ⟨rfl, hP, hK, hN⟩ := hv
  have hx := B.exec
  have hb := B.bytes
  have hr := B.returns
  have hts := atoms_spec (ws := k_K_end) B.pre
  have hw0 : ∀ w ∈ w0, w.before _ s = true := fun w h => hts w (List.mem_cons_of_mem _ h)
  have hown : s.vm.findClass R_K = some m.cls := findClass_of_methodNamed B.named
  have hlocks := B.notSynchronized
  have hP : va_P (dC, dI) vwCl [(h0, .inr (0, [v_documents, .ref hb1, v_fetched, v_compared, v_maker, v_writer, .ref hp, .int i_madeDocuments, .int i_fetchedSteps])), (hp, .inr (4, [.int 0, .int p_i_going, .int p_i_writesLeft])), (hb1, .inr (1, [hy, .int 0]))] s.heap := hP
  have hl := lv_entry ([.ref h0, .int a1]) (n := 2) (Nat.le_of_ble_eq_true rfl)
  rw [lg_entry_eq]
  generalize (lg_sl ([.ref h0, .int a1]) ++ List.replicate (2 - (lg_sl ([.ref h0, .int a1])).length) Slot.unset).toArray = ls at hl ⊢
  have hl : lv_has ls 2 [(0, .ref h0), (1, .int a1)] := hl
  refine lv_aload_n hx hb d_K_end_0 rfl (lv_at hl 0 rfl) ?_
  have hPc := hP.sub (ws' := [(h0, .inr (0, [v_documents, .ref hb1, v_fetched, v_compared, v_maker, v_writer, .ref hp, .int i_madeDocuments, .int i_fetchedSteps])), (hp, .inr (4, [.int 0, .int p_i_going, .int p_i_writesLeft]))]) [0, 1] rfl
  have hKc := hK.sub (tys' := []) [] rfl
  refine ps_v (va_runV (As := []) (rest := []) ⟨hx, hb, hml, hown, hw0⟩ (c_needPower l dC dI h0 v_documents (.ref hb1) v_fetched v_compared v_maker v_writer i_madeDocuments i_fetchedSteps hp p_i_going p_i_writesLeft) (cwV 0 hw0 (gd_V 113 114 115 111 116 rfl rfl rfl rfl rfl) rfl rfl rfl (by decide +kernel) ⟨by decide +kernel, by decide +kernel⟩) (prV_R hPc hKc hN (va_recv hKc hPc (ci := 0) (q0 := 0) rfl rfl)) rfl rfl hl.1 rfl (lv_room (Nat.le_of_ble_eq_true rfl)) d_K_end_1 ⟨by decide +kernel, by decide +kernel⟩) ?_
  refine lv_aload_n hx hb d_K_end_4 rfl (lv_at hl 0 rfl) ?_
  refine va_get (D := (dC, dI)) (ci := 0) (v := .ref hb1) (C := R_K) (T := F_K) (N := 9) hx hb hw0 in_K hown hK hP 0 rfl rfl 1 (by decide) (hw0 (.fieldLink R_K 18 "TextKeeper" "buffer" "LTextKeeper$Text;") (List.mem_of_getElem? (i := 82) rfl)) (fun _ h9 => h9) rfl d_K_end_5 ?_
  refine lv_iload_n hx hb d_K_end_8 rfl (lv_at hl 1 rfl) ?_
  have hPc := hP.sub (ws' := [(hb1, .inr (1, [hy, .int 0]))]) [2] rfl
  have hKc := hK.sub (tys' := []) [] rfl
  refine ps_i (va_runV (As := [.int a1]) (rest := []) ⟨hx, hb, hml, hown, hw0⟩ (c_shorten_F l dC dI hb1 hy a1 (by first | assumption | decide | omega)) (cwV 1 hw0 (gd_V 141 142 143 69 144 rfl rfl rfl rfl rfl) rfl rfl rfl (by decide +kernel) ⟨by decide +kernel, by decide +kernel⟩) (prV_R hPc hKc hN (va_recv hKc hPc (ci := 1) (q0 := 0) rfl rfl)) rfl rfl hl.1 rfl (lv_room (Nat.le_of_ble_eq_true rfl)) d_K_end_9 ⟨by decide +kernel, by decide +kernel⟩) (fun r_1 hr_1 => ?_)
  obtain rfl : r_1 = 0 := hr_1
  exact W.zret (v := 0) (ty := .boolean) hx hb hr rfl (fun t ht hW => ⟨0, rfl, rfl, ht⟩) (fun q h => by cases h) d_K_end_12
set_option maxHeartbeats 4000000 in
set_option maxRecDepth 100000 in
theorem c_lastsFor (l : Launch) (dC : Nat → ClassId) (dI : Nat → Nat → Nat) (h0 : Nat) (i_down : Int32) (i_writesLeft : Int32) (a1 : Int32)  : Met l y_P_lastsFor k_P_lastsFor ({ frames := 0, cells := 0, slots := 0, locals := 0 } : Room) (va_Pc [.ref h0, .int a1] (pc_R (dC, dI) [(h0, .inr (4, [.int i_down, .int 0, .int i_writesLeft]))] [])) (vp_Si (fun r => r = 1)) 0 0 (fun _ => False) := by
  refine Met.ofW (cc := prog_5_method_4_code) (maxL := 2) (ret := (some .boolean)) (by decide) rfl ?_
  intro p e s m args below meth c s₁ B hml hv
  obtain ⟨rfl, hP, hK, hN⟩ := hv
  have hx := B.exec
  have hb := B.bytes
  have hr := B.returns
  have hts := atoms_spec (ws := k_P_lastsFor) B.pre
  have hw0 : ∀ w ∈ w0, w.before _ s = true := fun w h => hts w (List.mem_cons_of_mem _ h)
  have hown : s.vm.findClass R_P = some m.cls := findClass_of_methodNamed B.named
  have hlocks := B.notSynchronized
  have hP : va_P (dC, dI) vwCl [(h0, .inr (4, [.int i_down, .int 0, .int i_writesLeft]))] s.heap := hP
  have hl := lv_entry ([.ref h0, .int a1]) (n := 2) (Nat.le_of_ble_eq_true rfl)
  rw [lg_entry_eq]
  generalize (lg_sl ([.ref h0, .int a1]) ++ List.replicate (2 - (lg_sl ([.ref h0, .int a1])).length) Slot.unset).toArray = ls at hl ⊢
  have hl : lv_has ls 2 [(0, .ref h0), (1, .int a1)] := hl
  refine lv_aload_n hx hb d_P_lastsFor_0 rfl (lv_at hl 0 rfl) ?_
  refine va_get (D := (dC, dI)) (ci := 4) (v := .int 0) (C := R_P) (T := F_P) (N := 3) hx hb hw0 in_P hown hK hP 0 rfl rfl 1 (by decide) (hw0 (.fieldLink R_P 13 "TextKeeper$Power" "going" "Z") (List.mem_of_getElem? (i := 57) rfl)) (fun _ h9 => h9) rfl d_P_lastsFor_1 ?_
  refine lv_if_ne (tgt := 9) hx hb d_P_lastsFor_4 (by decide) (fun h9 => absurd h9 (by decide +kernel)) (fun _ => ?_)
  refine lv_iconst (v := 1) hx hb d_P_lastsFor_7 (by decide) ?_
  exact W.zret (v := 1) (ty := .boolean) hx hb hr rfl (fun t ht hW => ⟨1, rfl, rfl, ht⟩) (fun q h => by cases h) d_P_lastsFor_8
set_option maxHeartbeats 4000000 in
set_option maxRecDepth 100000 in
theorem c_spendWrites (l : Launch) (dC : Nat → ClassId) (dI : Nat → Nat → Nat) (h0 : Nat) (v_documents : Value) (v_buffer : Value) (v_fetched : Value) (v_compared : Value) (v_maker : Value) (v_writer : Value) (i_madeDocuments : Int32) (i_fetchedSteps : Int32) (hp : Nat) (p_i_down : Int32) (p_i_writesLeft : Int32) (a1 : Int32)  : Met l y_K_spendWrites k_K_spendWrites ({ frames := 1, cells := 0, slots := 0, locals := 21 } : Room) (va_Pc [.ref h0, .int a1] (pc_R (dC, dI) [(h0, .inr (0, [v_documents, v_buffer, v_fetched, v_compared, v_maker, v_writer, .ref hp, .int i_madeDocuments, .int i_fetchedSteps])), (hp, .inr (4, [.int p_i_down, .int 0, .int p_i_writesLeft]))] [])) (va_Sv (fun _ => True)) 0 0 (fun _ => False) := by
  refine Met.ofW (cc := prog_1_method_22_code) (maxL := 2) (ret := none) (by decide) rfl ?_
  intro p e s m args below meth c s₁ B hml hv
  obtain ⟨rfl, hP, hK, hN⟩ := hv
  have hx := B.exec
  have hb := B.bytes
  have hr := B.returns
  have hts := atoms_spec (ws := k_K_spendWrites) B.pre
  have hw0 : ∀ w ∈ w0, w.before _ s = true := fun w h => hts w (List.mem_cons_of_mem _ h)
  have hown : s.vm.findClass R_K = some m.cls := findClass_of_methodNamed B.named
  have hlocks := B.notSynchronized
  have hP : va_P (dC, dI) vwCl [(h0, .inr (0, [v_documents, v_buffer, v_fetched, v_compared, v_maker, v_writer, .ref hp, .int i_madeDocuments, .int i_fetchedSteps])), (hp, .inr (4, [.int p_i_down, .int 0, .int p_i_writesLeft]))] s.heap := hP
  have hl := lv_entry ([.ref h0, .int a1]) (n := 2) (Nat.le_of_ble_eq_true rfl)
  rw [lg_entry_eq]
  generalize (lg_sl ([.ref h0, .int a1]) ++ List.replicate (2 - (lg_sl ([.ref h0, .int a1])).length) Slot.unset).toArray = ls at hl ⊢
  have hl : lv_has ls 2 [(0, .ref h0), (1, .int a1)] := hl
  refine lv_aload_n hx hb d_K_spendWrites_0 rfl (lv_at hl 0 rfl) ?_
  refine va_get (D := (dC, dI)) (ci := 0) (v := .ref hp) (C := R_K) (T := F_K) (N := 9) hx hb hw0 in_K hown hK hP 0 rfl rfl 6 (by decide) (hw0 (.fieldLink R_K 45 "TextKeeper" "power" "LTextKeeper$Power;") (List.mem_of_getElem? (i := 105) rfl)) (fun _ h9 => h9) rfl d_K_spendWrites_1 ?_
  refine lv_iload_n hx hb d_K_spendWrites_4 rfl (lv_at hl 1 rfl) ?_
  have hPc := hP.sub (ws' := [(hp, .inr (4, [.int p_i_down, .int 0, .int p_i_writesLeft]))]) [1] rfl
  have hKc := hK.sub (tys' := []) [] rfl
  refine ps_i (va_runV (As := [.int a1]) (rest := []) ⟨hx, hb, hml, hown, hw0⟩ (c_lastsFor l dC dI hp p_i_down p_i_writesLeft a1) (cwV 1 hw0 (gd_V 145 146 147 101 148 rfl rfl rfl rfl rfl) rfl rfl rfl (by decide +kernel) ⟨by decide +kernel, by decide +kernel⟩) (prV_R hPc hKc hN (va_recv hKc hPc (ci := 4) (q0 := 0) rfl rfl)) rfl rfl hl.1 rfl (lv_room (Nat.le_of_ble_eq_true rfl)) d_K_spendWrites_5 ⟨by decide +kernel, by decide +kernel⟩) (fun r_1 hr_1 => ?_)
  obtain rfl : r_1 = 1 := hr_1
  refine lv_if_ne (tgt := 28) hx hb d_K_spendWrites_8 (by decide) (fun _ => ?_) (fun h9 => absurd h9 (by decide +kernel))
  exact W.vret hx hb hr (fun t ht hW => ⟨rfl, trivial, ht⟩) (fun q h => by cases h) d_K_spendWrites_28
set_option maxHeartbeats 4000000 in
set_option maxRecDepth 100000 in
theorem c_Document_init (l : Launch) (dC : Nat → ClassId) (dI : Nat → Nat → Nat) (sz : Nat) (h0 : Nat)  : Met l y_D_init k_D_init ({ frames := 1, cells := 1, slots := 64, locals := 12 } : Room) (va_Pc [.ref h0] (pc_E (dC, dI) [(h0, .inr (5, [.null, .int 0, .int 0]))] [] sz)) (va_Qv (fun (_ : Unit) => True) (fun (_ : Unit) t => ∃ (q1 : Nat), at_E (dC, dI) (va_A [(h0, .inr (5, [.null, .int 0, .int 0]))] sz) [(h0, .inr (5, [.ref q1, .int 0, .int 0]))] [] t) (va_A [(h0, .inr (5, [.null, .int 0, .int 0]))] sz)) 1 64 (va_A [(h0, .inr (5, [.null, .int 0, .int 0]))] sz) := by
  refine Met.ofW (cc := prog_2_method_1_code) (maxL := 1) (ret := none) (by decide) rfl ?_
  intro p e s m args below meth c s₁ B hml hv
  obtain ⟨rfl, hsz, hP, hK, hD0, hN⟩ := hv
  have hx := B.exec
  have hb := B.bytes
  have hr := B.returns
  have hts := atoms_spec (ws := k_D_init) B.pre
  have hw0 : ∀ w ∈ w0, w.before _ s = true := fun w h => hts w (List.mem_cons_of_mem _ h)
  have hown : s.vm.findClass R_D = some m.cls := findClass_of_methodNamed B.named
  have hlocks := B.notSynchronized
  have hin : meth.name = "<init>" := (name_of_methodNamed B.named B.method).1
  subst hsz
  have hD := hD0.self (sz := s.heap.size)
  generalize hAe : va_A [(h0, .inr (5, [.null, .int 0, .int 0]))] s.heap.size = A at hD ⊢
  have hA : ∀ q : Nat, s.heap.size ≤ q → A q := fun q h => by rw [← hAe]; exact Or.inr h
  have hS : va_S A s.heap s.heap [] := va_S.rf
  have hP : va_P (dC, dI) vwCl [(h0, .inr (5, [.null, .int 0, .int 0]))] s.heap := hP
  have hl := lv_entry ([.ref h0]) (n := 1) (Nat.le_of_ble_eq_true rfl)
  rw [lg_entry_eq]
  generalize (lg_sl ([.ref h0]) ++ List.replicate (1 - (lg_sl ([.ref h0])).length) Slot.unset).toArray = ls at hl ⊢
  have hl : lv_has ls 1 [(0, .ref h0)] := hl
  refine lv_aload_n hx hb d_D_init_0 rfl (lv_at hl 0 rfl) ?_
  refine W.objInit hx hb hown (hw0 (.methodLink R_D 3 objectInit) (List.mem_of_getElem? (i := 149) rfl)) (hw0 (.instanceMethod objectInit) (List.mem_of_getElem? (i := 54) rfl)) (hw0 (.code objectInit ⟨#[0xb1]⟩ 1 none) (List.mem_of_getElem? (i := 55) rfl)) rfl (by rw [hml]; exact hl.1) rfl d_D_init_1 (Nat.le_of_ble_eq_true rfl) (Nat.le_of_ble_eq_true rfl) ?_
  refine W.eq (g2 := F0 m 4 ls []) rfl ?_
  refine lv_aload_n hx hb d_D_init_4 rfl (lv_at hl 0 rfl) ?_
  refine lv_bipush (v := 64) hx hb d_D_init_5 (by decide +kernel) ?_
  refine va_newq (N' := 64) hx hb hown (hw0 (.classLink R_D 9 R_V) (List.mem_of_getElem? (i := 150) rfl)) (hN.2 _ (List.mem_of_getElem? (i := 1) rfl)) hK hP hD hS hA (by decide +kernel) (by decide +kernel) (by decide +kernel) (by decide +kernel) (by decide +kernel) d_D_init_7 (fun q_1 cA_2 H hK hP hD hS => ?_)
  replace hK : va_K (dC, dI) vwCl [(cA_2, .object R_V)] s := hK
  replace hP : va_P (dC, dI) vwCl [(h0, .inr (5, [.null, .int 0, .int 0])), (q_1, .inl (cA_2, 64, .inr (.inr (.inr (.inr (fun _ => none))))))] H := hP
  replace hD : va_D A [(h0, .inr (5, [.null, .int 0, .int 0])), (q_1, .inl (cA_2, 64, .inr (.inr (.inr (.inr (fun _ => none))))))] := hD
  refine W.widen (k := 1) (n := 64) (by decide +kernel) (by decide +kernel) ?_
  refine va_putF (D := (dC, dI)) (ci := 5) (v := .ref q_1) (ty := (.array (.object "TextKeeper$Revision"))) (C := R_D) (T := F_D) (N := 3) hx hb hw0 in_D ft_D tk_D nk_D hown hK hP hD hS 0 rfl rfl 0 (by decide) (hw0 (.fieldLink R_D 11 "TextKeeper$Document" "revisions" "[LTextKeeper$Revision;") (List.mem_of_getElem? (i := 151) rfl)) (fun _ h9 => h9) rfl hin rfl (by decide +kernel) rfl rfl (Nat.le_of_ble_eq_true rfl) d_D_init_10 (fun H locs hP hD hS => ?_)
  replace hP : va_P (dC, dI) vwCl [(h0, .inr (5, [.ref q_1, .int 0, .int 0])), (q_1, .inl (cA_2, 64, .inr (.inr (.inr (.inr (fun _ => none))))))] H := hP
  replace hD : va_D A [(h0, .inr (5, [.ref q_1, .int 0, .int 0])), (q_1, .inl (cA_2, 64, .inr (.inr (.inr (.inr (fun _ => none))))))] := hD
  refine lv_aload_n hx hb d_D_init_13 rfl (lv_at hl 0 rfl) ?_
  refine lv_iconst (v := 0) hx hb d_D_init_14 (by decide) ?_
  refine va_put (D := (dC, dI)) (ci := 5) (v := .int 0) (ty := .int) (C := R_D) (T := F_D) (N := 3) hx hb hw0 in_D ft_D tk_D nk_D hown hK hP hD hS 0 rfl rfl 1 (by decide) (hw0 (.fieldLink R_D 17 "TextKeeper$Document" "first" "I") (List.mem_of_getElem? (i := 152) rfl)) (fun _ h9 => h9) rfl (by decide +kernel) rfl rfl (Nat.le_of_ble_eq_true rfl) d_D_init_15 (fun H locs hP hD hS => ?_)
  replace hP : va_P (dC, dI) vwCl [(h0, .inr (5, [.ref q_1, .int 0, .int 0])), (q_1, .inl (cA_2, 64, .inr (.inr (.inr (.inr (fun _ => none))))))] H := hP
  replace hD : va_D A [(h0, .inr (5, [.ref q_1, .int 0, .int 0])), (q_1, .inl (cA_2, 64, .inr (.inr (.inr (.inr (fun _ => none))))))] := hD
  refine lv_aload_n hx hb d_D_init_18 rfl (lv_at hl 0 rfl) ?_
  refine lv_iconst (v := 0) hx hb d_D_init_19 (by decide) ?_
  refine va_put (D := (dC, dI)) (ci := 5) (v := .int 0) (ty := .int) (C := R_D) (T := F_D) (N := 3) hx hb hw0 in_D ft_D tk_D nk_D hown hK hP hD hS 0 rfl rfl 2 (by decide) (hw0 (.fieldLink R_D 21 "TextKeeper$Document" "count" "I") (List.mem_of_getElem? (i := 153) rfl)) (fun _ h9 => h9) rfl (by decide +kernel) rfl rfl (Nat.le_of_ble_eq_true rfl) d_D_init_20 (fun H locs hP hD hS => ?_)
  replace hP : va_P (dC, dI) vwCl [(h0, .inr (5, [.ref q_1, .int 0, .int 0])), (q_1, .inl (cA_2, 64, .inr (.inr (.inr (.inr (fun _ => none))))))] H := hP
  replace hD : va_D A [(h0, .inr (5, [.ref q_1, .int 0, .int 0])), (q_1, .inl (cA_2, 64, .inr (.inr (.inr (.inr (fun _ => none))))))] := hD
  have hP9 := hP.sub (ws' := [(h0, .inr (5, [.ref q_1, .int 0, .int 0]))]) [0] rfl
  have hD9 := hD.sub (ws' := [(h0, .inr (5, [.ref q_1, .int 0, .int 0]))]) [0] (by decide) rfl
  have hK9 := hK.sub (tys' := []) [] rfl
  exact W.vret hx hb hr (fun t ht hW => ⟨⟨(), rfl, trivial, q_1, by rw [ht]; exact hP9, va_K.moved hW.alike hK9, hD9⟩, hS.F ht⟩) hS.2.2 d_D_init_23
set_option maxHeartbeats 4000000 in
set_option maxRecDepth 100000 in
theorem c_make (l : Launch) (dC : Nat → ClassId) (dI : Nat → Nat → Nat) (sz : Nat) (h0 : Nat) (v_buffer : Value) (v_fetched : Value) (v_compared : Value) (v_maker : Value) (v_writer : Value) (i_fetchedSteps : Int32) (hp : Nat) (p_i_writesLeft : Int32) (hd : Nat) (cD : ClassId)  : Met l y_K_make k_K_make ({ frames := 2, cells := 2, slots := 67, locals := 42 } : Room) (va_Pc [.ref h0] (pc_E (dC, dI) [(h0, .inr (0, [.ref hd, v_buffer, v_fetched, v_compared, v_maker, v_writer, .ref hp, .int 0, .int i_fetchedSteps])), (hp, .inr (4, [.int 0, .int 0, .int p_i_writesLeft])), (hd, .inl (cD, 8, .inr (.inr (.inr (.inr (fun _ => none))))))] [(cD, .object R_D)] sz)) (va_Qi (fun (r : Int32) (_ : Unit) => r = 0) (fun (_ : Unit) t => at_E (dC, dI) (va_A [(h0, .inr (0, [.ref hd, v_buffer, v_fetched, v_compared, v_maker, v_writer, .ref hp, .int 0, .int i_fetchedSteps])), (hp, .inr (4, [.int 0, .int 0, .int p_i_writesLeft])), (hd, .inl (cD, 8, .inr (.inr (.inr (.inr (fun _ => none))))))] sz) [] [] t) (va_A [(h0, .inr (0, [.ref hd, v_buffer, v_fetched, v_compared, v_maker, v_writer, .ref hp, .int 0, .int i_fetchedSteps])), (hp, .inr (4, [.int 0, .int 0, .int p_i_writesLeft])), (hd, .inl (cD, 8, .inr (.inr (.inr (.inr (fun _ => none))))))] sz)) 2 67 (va_A [(h0, .inr (0, [.ref hd, v_buffer, v_fetched, v_compared, v_maker, v_writer, .ref hp, .int 0, .int i_fetchedSteps])), (hp, .inr (4, [.int 0, .int 0, .int p_i_writesLeft])), (hd, .inl (cD, 8, .inr (.inr (.inr (.inr (fun _ => none))))))] sz) := by
  refine Met.ofW (cc := prog_1_method_4_code) (maxL := 2) (ret := (some .int)) (by decide) rfl ?_
  intro p e s m args below meth c s₁ B hml hv
  obtain ⟨rfl, hsz, hP, hK, hD0, hN⟩ := hv
  have hx := B.exec
  have hb := B.bytes
  have hr := B.returns
  have hts := atoms_spec (ws := k_K_make) B.pre
  have hw0 : ∀ w ∈ w0, w.before _ s = true := fun w h => hts w (List.mem_cons_of_mem _ h)
  have hown : s.vm.findClass R_K = some m.cls := findClass_of_methodNamed B.named
  have hlocks := B.notSynchronized
  subst hsz
  have hD := hD0.self (sz := s.heap.size)
  generalize hAe : va_A [(h0, .inr (0, [.ref hd, v_buffer, v_fetched, v_compared, v_maker, v_writer, .ref hp, .int 0, .int i_fetchedSteps])), (hp, .inr (4, [.int 0, .int 0, .int p_i_writesLeft])), (hd, .inl (cD, 8, .inr (.inr (.inr (.inr (fun _ => none))))))] s.heap.size = A at hD ⊢
  have hA : ∀ q : Nat, s.heap.size ≤ q → A q := fun q h => by rw [← hAe]; exact Or.inr h
  have hS : va_S A s.heap s.heap [] := va_S.rf
  have hP : va_P (dC, dI) vwCl [(h0, .inr (0, [.ref hd, v_buffer, v_fetched, v_compared, v_maker, v_writer, .ref hp, .int 0, .int i_fetchedSteps])), (hp, .inr (4, [.int 0, .int 0, .int p_i_writesLeft])), (hd, .inl (cD, 8, .inr (.inr (.inr (.inr (fun _ => none))))))] s.heap := hP
  have hl := lv_entry ([.ref h0]) (n := 2) (Nat.le_of_ble_eq_true rfl)
  rw [lg_entry_eq]
  generalize (lg_sl ([.ref h0]) ++ List.replicate (2 - (lg_sl ([.ref h0])).length) Slot.unset).toArray = ls at hl ⊢
  have hl : lv_has ls 2 [(0, .ref h0)] := hl
  refine lv_aload_n hx hb d_K_make_0 rfl (lv_at hl 0 rfl) ?_
  have hPc := hP.sub (ws' := [(h0, .inr (0, [.ref hd, v_buffer, v_fetched, v_compared, v_maker, v_writer, .ref hp, .int 0, .int i_fetchedSteps])), (hp, .inr (4, [.int 0, .int 0, .int p_i_writesLeft]))]) [0, 1] rfl
  have hKc := hK.sub (tys' := []) [] rfl
  refine ps_v (va_runV (As := []) (rest := []) ⟨hx, hb, hml, hown, hw0⟩ (c_needPower l dC dI h0 (.ref hd) v_buffer v_fetched v_compared v_maker v_writer 0 i_fetchedSteps hp 0 p_i_writesLeft) (cwV 0 hw0 (gd_V 113 114 115 111 116 rfl rfl rfl rfl rfl) rfl rfl rfl (by decide +kernel) ⟨by decide +kernel, by decide +kernel⟩) (prV_R hPc hKc hN (va_recv hKc hPc (ci := 0) (q0 := 0) rfl rfl)) rfl rfl hl.1 rfl (lv_room (Nat.le_of_ble_eq_true rfl)) d_K_make_1 ⟨by decide +kernel, by decide +kernel⟩) ?_
  refine lv_aload_n hx hb d_K_make_4 rfl (lv_at hl 0 rfl) ?_
  refine va_get (D := (dC, dI)) (ci := 0) (v := .int 0) (C := R_K) (T := F_K) (N := 9) hx hb hw0 in_K hown hK hP 0 rfl rfl 7 (by decide) (hw0 (.fieldLink R_K 49 "TextKeeper" "madeDocuments" "I") (List.mem_of_getElem? (i := 106) rfl)) (fun _ h9 => h9) rfl d_K_make_5 ?_
  refine lv_bipush (v := 8) hx hb d_K_make_8 (by decide +kernel) ?_
  refine lv_icmp_lt (tgt := 15) hx hb d_K_make_10 (by decide) (fun _ => ?_) (fun h9 => absurd h9 (by decide +kernel))
  refine lv_aload_n hx hb d_K_make_15 rfl (lv_at hl 0 rfl) ?_
  refine lv_iconst (v := 1) hx hb d_K_make_16 (by decide) ?_
  have hPc := hP.sub (ws' := [(h0, .inr (0, [.ref hd, v_buffer, v_fetched, v_compared, v_maker, v_writer, .ref hp, .int 0, .int i_fetchedSteps])), (hp, .inr (4, [.int 0, .int 0, .int p_i_writesLeft]))]) [0, 1] rfl
  have hKc := hK.sub (tys' := []) [] rfl
  refine ps_v (va_runV (As := [.int 1]) (rest := []) ⟨hx, hb, hml, hown, hw0⟩ (c_spendWrites l dC dI h0 (.ref hd) v_buffer v_fetched v_compared v_maker v_writer 0 i_fetchedSteps hp 0 p_i_writesLeft 1) (cwV 1 hw0 (gd_V 154 155 156 111 157 rfl rfl rfl rfl rfl) rfl rfl rfl (by decide +kernel) ⟨by decide +kernel, by decide +kernel⟩) (prV_R hPc hKc hN (va_recv hKc hPc (ci := 0) (q0 := 0) rfl rfl)) rfl rfl hl.1 rfl (lv_room (Nat.le_of_ble_eq_true rfl)) d_K_make_17 ⟨by decide +kernel, by decide +kernel⟩) ?_
  refine lv_aload_n hx hb d_K_make_20 rfl (lv_at hl 0 rfl) ?_
  refine va_get (D := (dC, dI)) (ci := 0) (v := .int 0) (C := R_K) (T := F_K) (N := 9) hx hb hw0 in_K hown hK hP 0 rfl rfl 7 (by decide) (hw0 (.fieldLink R_K 49 "TextKeeper" "madeDocuments" "I") (List.mem_of_getElem? (i := 106) rfl)) (fun _ h9 => h9) rfl d_K_make_21 ?_
  refine lv_istore_n (lv' := [(1, .int 0), (0, .ref h0)]) hx hb d_K_make_24 rfl hl (by decide) rfl (fun ls hl => ?_)
  refine lv_aload_n hx hb d_K_make_25 rfl (lv_at hl 1 rfl) ?_
  refine va_get (D := (dC, dI)) (ci := 0) (v := .ref hd) (C := R_K) (T := F_K) (N := 9) hx hb hw0 in_K hown hK hP 0 rfl rfl 0 (by decide) (hw0 (.fieldLink R_K 11 "TextKeeper" "documents" "[LTextKeeper$Document;") (List.mem_of_getElem? (i := 79) rfl)) (fun _ h9 => h9) rfl d_K_make_26 ?_
  refine lv_iload_n hx hb d_K_make_29 rfl (lv_at hl 0 rfl) ?_
  refine va_new (ci := 5) (fs := [.null, .int 0, .int 0]) (C := R_D) (T := F_D) (N := 3) hx hb hw0 in_D ft_D tk_D hown (hw0 (.classLink R_K 9 R_D) (List.mem_of_getElem? (i := 78) rfl)) (hw0 (.instantiable R_D 3) (List.mem_of_getElem? (i := 158) rfl)) (hw0 (.initialized R_D) (List.mem_of_getElem? (i := 159) rfl)) hK hP hD hS hA rfl (fun j hj => nw_D j hj) (by decide +kernel) (by decide +kernel) d_K_make_30 (fun q_1 H hP hD hS => ?_)
  replace hP : va_P (dC, dI) vwCl [(h0, .inr (0, [.ref hd, v_buffer, v_fetched, v_compared, v_maker, v_writer, .ref hp, .int 0, .int i_fetchedSteps])), (hp, .inr (4, [.int 0, .int 0, .int p_i_writesLeft])), (hd, .inl (cD, 8, .inr (.inr (.inr (.inr (fun _ => none)))))), (q_1, .inr (5, [.null, .int 0, .int 0]))] H := hP
  replace hD : va_D A [(h0, .inr (0, [.ref hd, v_buffer, v_fetched, v_compared, v_maker, v_writer, .ref hp, .int 0, .int i_fetchedSteps])), (hp, .inr (4, [.int 0, .int 0, .int p_i_writesLeft])), (hd, .inl (cD, 8, .inr (.inr (.inr (.inr (fun _ => none)))))), (q_1, .inr (5, [.null, .int 0, .int 0]))] := hD
  refine W.widen (k := 1) (n := 3) (by decide +kernel) (by decide +kernel) ?_
  refine lv_dup hx hb d_K_make_33 rfl ?_
  have hPc := hP.sub (ws' := [(q_1, .inr (5, [.null, .int 0, .int 0]))]) [3] rfl
  have hKc := hK.sub (tys' := []) [] rfl
  have hDc := hD.sub (ws' := [(q_1, .inr (5, [.null, .int 0, .int 0]))]) [3] (by decide) rfl
  have hFc := va_free (wc := [(q_1, .inr (5, [.null, .int 0, .int 0]))]) hD hS hA [3] rfl
  refine va_callv (va_runI (As := []) (rest := [.ref q_1, .int 0, .ref hd]) ⟨hx, hb, hml, hown, hw0⟩ (c_Document_init l dC dI H.size q_1) (cwI 0 hw0 (gd_I 160 rfl) rfl rfl rfl (hw0 (.initialized R_D) (List.mem_of_getElem? (i := 159) rfl)) (hw0 (.methodLink R_K 73 y_D_init) (List.mem_of_getElem? (i := 161) rfl)) (hw0 (.instanceMethod y_D_init) (List.mem_of_getElem? (i := 162) rfl)) rfl (by decide +kernel) ⟨by decide +kernel, by decide +kernel⟩) (prS_E hPc hKc hDc hN) rfl rfl hl.1 rfl (lv_room (Nat.le_of_ble_eq_true rfl)) d_K_make_34 ⟨by decide +kernel, by decide +kernel⟩) hS (fun q _ h => hFc q h) hFc (fun u t H1 locs ht hvm hw hB hz1 hk1 hS => ?_)
  obtain ⟨q1_2, hP1, hK1, hD1⟩ := hB
  rw [ht] at hP1
  have hK1 := va_K.moved hvm.symm hK1
  try dsimp only at hw
  obtain ⟨hP, hD⟩ := va_join (wr := [(h0, .inr (0, [.ref hd, v_buffer, v_fetched, v_compared, v_maker, v_writer, .ref hp, .int 0, .int i_fetchedSteps])), (hp, .inr (4, [.int 0, .int 0, .int p_i_writesLeft])), (hd, .inl (cD, 8, .inr (.inr (.inr (.inr (fun _ => none))))))]) (w1 := [(q_1, .inr (5, [.ref q1_2, .int 0, .int 0]))]) hP hD [3] [0, 1, 2] rfl rfl (by decide) (by decide) hk1 hFc hP1 hD1
  generalize H1 = H at hP hS ⊢
  replace hP : va_P (dC, dI) vwCl [(h0, .inr (0, [.ref hd, v_buffer, v_fetched, v_compared, v_maker, v_writer, .ref hp, .int 0, .int i_fetchedSteps])), (hp, .inr (4, [.int 0, .int 0, .int p_i_writesLeft])), (hd, .inl (cD, 8, .inr (.inr (.inr (.inr (fun _ => none)))))), (q_1, .inr (5, [.ref q1_2, .int 0, .int 0]))] H := hP
  replace hD : va_D A [(h0, .inr (0, [.ref hd, v_buffer, v_fetched, v_compared, v_maker, v_writer, .ref hp, .int 0, .int i_fetchedSteps])), (hp, .inr (4, [.int 0, .int 0, .int p_i_writesLeft])), (hd, .inl (cD, 8, .inr (.inr (.inr (.inr (fun _ => none)))))), (q_1, .inr (5, [.ref q1_2, .int 0, .int 0]))] := hD
  replace hK : va_K (dC, dI) vwCl [(cD, .object R_D)] s := hK
  refine W.widen (k := 2) (n := 67) (by decide +kernel) (by decide +kernel) ?_
  refine va_astq hx hb hK hP hD hS 2 0 3 5 rfl rfl rfl rfl (by unfold vp_in; decide +kernel) d_K_make_37 (fun H locs hP hD hS => ?_)
  replace hP : va_P (dC, dI) vwCl [(h0, .inr (0, [.ref hd, v_buffer, v_fetched, v_compared, v_maker, v_writer, .ref hp, .int 0, .int i_fetchedSteps])), (hp, .inr (4, [.int 0, .int 0, .int p_i_writesLeft])), (hd, .inl (cD, 8, .inr (.inr (.inr (.inr (va_up (fun _ => none) (Int32.toNatClampNeg 0) (some q_1))))))), (q_1, .inr (5, [.ref q1_2, .int 0, .int 0]))] H := hP
  replace hD : va_D A [(h0, .inr (0, [.ref hd, v_buffer, v_fetched, v_compared, v_maker, v_writer, .ref hp, .int 0, .int i_fetchedSteps])), (hp, .inr (4, [.int 0, .int 0, .int p_i_writesLeft])), (hd, .inl (cD, 8, .inr (.inr (.inr (.inr (va_up (fun _ => none) (Int32.toNatClampNeg 0) (some q_1))))))), (q_1, .inr (5, [.ref q1_2, .int 0, .int 0]))] := hD
  refine lv_aload_n hx hb d_K_make_38 rfl (lv_at hl 1 rfl) ?_
  refine lv_dup hx hb d_K_make_39 rfl ?_
  refine va_get (D := (dC, dI)) (ci := 0) (v := .int 0) (C := R_K) (T := F_K) (N := 9) hx hb hw0 in_K hown hK hP 0 rfl rfl 7 (by decide) (hw0 (.fieldLink R_K 49 "TextKeeper" "madeDocuments" "I") (List.mem_of_getElem? (i := 106) rfl)) (fun _ h9 => h9) rfl d_K_make_40 ?_
  refine lv_iconst (v := 1) hx hb d_K_make_43 (by decide) ?_
  refine lv_iadd hx hb d_K_make_44 ?_
  refine lv_topi (fun x_4 ex_4 => ?_)
  obtain rfl : x_4 = 1 := ex_4.trans (by decide +kernel)
  clear ex_4
  refine va_put (D := (dC, dI)) (ci := 0) (v := .int 1) (ty := .int) (C := R_K) (T := F_K) (N := 9) hx hb hw0 in_K ft_K tk_K nk_K hown hK hP hD hS 0 rfl rfl 7 (by decide) (hw0 (.fieldLink R_K 49 "TextKeeper" "madeDocuments" "I") (List.mem_of_getElem? (i := 106) rfl)) (fun _ h9 => h9) rfl (by decide +kernel) rfl rfl (Nat.le_of_ble_eq_true rfl) d_K_make_45 (fun H locs hP hD hS => ?_)
  replace hP : va_P (dC, dI) vwCl [(h0, .inr (0, [.ref hd, v_buffer, v_fetched, v_compared, v_maker, v_writer, .ref hp, .int 1, .int i_fetchedSteps])), (hp, .inr (4, [.int 0, .int 0, .int p_i_writesLeft])), (hd, .inl (cD, 8, .inr (.inr (.inr (.inr (va_up (fun _ => none) (Int32.toNatClampNeg 0) (some q_1))))))), (q_1, .inr (5, [.ref q1_2, .int 0, .int 0]))] H := hP
  replace hD : va_D A [(h0, .inr (0, [.ref hd, v_buffer, v_fetched, v_compared, v_maker, v_writer, .ref hp, .int 1, .int i_fetchedSteps])), (hp, .inr (4, [.int 0, .int 0, .int p_i_writesLeft])), (hd, .inl (cD, 8, .inr (.inr (.inr (.inr (va_up (fun _ => none) (Int32.toNatClampNeg 0) (some q_1))))))), (q_1, .inr (5, [.ref q1_2, .int 0, .int 0]))] := hD
  refine lv_iload_n hx hb d_K_make_48 rfl (lv_at hl 0 rfl) ?_
  have hP9 := hP.sub (ws' := []) [] rfl
  have hD9 := hD.sub (ws' := []) [] (by decide) rfl
  have hK9 := hK.sub (tys' := []) [] rfl
  exact W.iret (v := 0) hx hb hr (fun t ht hW => ⟨⟨0, (), rfl, rfl, by rw [ht]; exact hP9, va_K.moved hW.alike hK9, hD9⟩, hS.F ht⟩) hS.2.2 d_K_make_49
set_option maxHeartbeats 4000000 in
set_option maxRecDepth 100000 in
theorem c_goAfter (l : Launch) (dC : Nat → ClassId) (dI : Nat → Nat → Nat) (sz : Nat) (h0 : Nat) (i_down : Int32) (i_going : Int32) (i_writesLeft : Int32) (a1 : Int32)  : Met l y_P_goAfter k_P_goAfter ({ frames := 0, cells := 0, slots := 0, locals := 0 } : Room) (va_Pc [.ref h0, .int a1] (pc_E (dC, dI) [(h0, .inr (4, [.int i_down, .int i_going, .int i_writesLeft]))] [] sz)) (va_Qv (fun (_ : Unit) => True) (fun (_ : Unit) t => at_E (dC, dI) (va_A [(h0, .inr (4, [.int i_down, .int i_going, .int i_writesLeft]))] sz) [] [] t) (va_A [(h0, .inr (4, [.int i_down, .int i_going, .int i_writesLeft]))] sz)) 0 0 (va_A [(h0, .inr (4, [.int i_down, .int i_going, .int i_writesLeft]))] sz) := by
  refine Met.ofW (cc := prog_5_method_2_code) (maxL := 2) (ret := none) (by decide) rfl ?_
  intro p e s m args below meth c s₁ B hml hv
  obtain ⟨rfl, hsz, hP, hK, hD0, hN⟩ := hv
  have hx := B.exec
  have hb := B.bytes
  have hr := B.returns
  have hts := atoms_spec (ws := k_P_goAfter) B.pre
  have hw0 : ∀ w ∈ w0, w.before _ s = true := fun w h => hts w (List.mem_cons_of_mem _ h)
  have hown : s.vm.findClass R_P = some m.cls := findClass_of_methodNamed B.named
  have hlocks := B.notSynchronized
  subst hsz
  have hD := hD0.self (sz := s.heap.size)
  generalize hAe : va_A [(h0, .inr (4, [.int i_down, .int i_going, .int i_writesLeft]))] s.heap.size = A at hD ⊢
  have hA : ∀ q : Nat, s.heap.size ≤ q → A q := fun q h => by rw [← hAe]; exact Or.inr h
  have hS : va_S A s.heap s.heap [] := va_S.rf
  have hP : va_P (dC, dI) vwCl [(h0, .inr (4, [.int i_down, .int i_going, .int i_writesLeft]))] s.heap := hP
  have hl := lv_entry ([.ref h0, .int a1]) (n := 2) (Nat.le_of_ble_eq_true rfl)
  rw [lg_entry_eq]
  generalize (lg_sl ([.ref h0, .int a1]) ++ List.replicate (2 - (lg_sl ([.ref h0, .int a1])).length) Slot.unset).toArray = ls at hl ⊢
  have hl : lv_has ls 2 [(0, .ref h0), (1, .int a1)] := hl
  refine lv_aload_n hx hb d_P_goAfter_0 rfl (lv_at hl 0 rfl) ?_
  refine lv_iconst (v := 1) hx hb d_P_goAfter_1 (by decide) ?_
  refine va_put (D := (dC, dI)) (ci := 4) (v := .int 1) (ty := .boolean) (C := R_P) (T := F_P) (N := 3) hx hb hw0 in_P ft_P tk_P nk_P hown hK hP hD hS 0 rfl rfl 1 (by decide) (hw0 (.fieldLink R_P 13 "TextKeeper$Power" "going" "Z") (List.mem_of_getElem? (i := 57) rfl)) (fun _ h9 => h9) rfl (by decide +kernel) rfl rfl (Nat.le_of_ble_eq_true rfl) d_P_goAfter_2 (fun H locs hP hD hS => ?_)
  replace hP : va_P (dC, dI) vwCl [(h0, .inr (4, [.int i_down, .int 1, .int i_writesLeft]))] H := hP
  replace hD : va_D A [(h0, .inr (4, [.int i_down, .int 1, .int i_writesLeft]))] := hD
  refine lv_aload_n hx hb d_P_goAfter_5 rfl (lv_at hl 0 rfl) ?_
  refine lv_iload_n hx hb d_P_goAfter_6 rfl (lv_at hl 1 rfl) ?_
  refine va_put (D := (dC, dI)) (ci := 4) (v := .int a1) (ty := .int) (C := R_P) (T := F_P) (N := 3) hx hb hw0 in_P ft_P tk_P nk_P hown hK hP hD hS 0 rfl rfl 2 (by decide) (hw0 (.fieldLink R_P 16 "TextKeeper$Power" "writesLeft" "I") (List.mem_of_getElem? (i := 58) rfl)) (fun _ h9 => h9) rfl (by decide +kernel) rfl rfl (Nat.le_of_ble_eq_true rfl) d_P_goAfter_7 (fun H locs hP hD hS => ?_)
  replace hP : va_P (dC, dI) vwCl [(h0, .inr (4, [.int i_down, .int 1, .int a1]))] H := hP
  replace hD : va_D A [(h0, .inr (4, [.int i_down, .int 1, .int a1]))] := hD
  have hP9 := hP.sub (ws' := []) [] rfl
  have hD9 := hD.sub (ws' := []) [] (by decide) rfl
  have hK9 := hK.sub (tys' := []) [] rfl
  exact W.vret hx hb hr (fun t ht hW => ⟨⟨(), rfl, trivial, by rw [ht]; exact hP9, va_K.moved hW.alike hK9, hD9⟩, hS.F ht⟩) hS.2.2 d_P_goAfter_10
set_option maxHeartbeats 4000000 in
set_option maxRecDepth 100000 in
theorem c_cutAfter_T (l : Launch) (dC : Nat → ClassId) (dI : Nat → Nat → Nat) (sz : Nat) (h0 : Nat) (v_documents : Value) (v_buffer : Value) (v_fetched : Value) (v_compared : Value) (v_maker : Value) (v_writer : Value) (i_madeDocuments : Int32) (i_fetchedSteps : Int32) (hp : Nat) (p_i_going : Int32) (p_i_writesLeft : Int32) (a1 : Int32) (h1 : ¬ a1 < 0) : Met l y_K_cutAfter k_K_cutAfter ({ frames := 1, cells := 0, slots := 0, locals := 21 } : Room) (va_Pc [.ref h0, .int a1] (pc_E (dC, dI) [(h0, .inr (0, [v_documents, v_buffer, v_fetched, v_compared, v_maker, v_writer, .ref hp, .int i_madeDocuments, .int i_fetchedSteps])), (hp, .inr (4, [.int 0, .int p_i_going, .int p_i_writesLeft]))] [] sz)) (va_Qi (fun (r : Int32) (_ : Unit) => r = 1) (fun (_ : Unit) t => at_E (dC, dI) (va_A [(h0, .inr (0, [v_documents, v_buffer, v_fetched, v_compared, v_maker, v_writer, .ref hp, .int i_madeDocuments, .int i_fetchedSteps])), (hp, .inr (4, [.int 0, .int p_i_going, .int p_i_writesLeft]))] sz) [] [] t) (va_A [(h0, .inr (0, [v_documents, v_buffer, v_fetched, v_compared, v_maker, v_writer, .ref hp, .int i_madeDocuments, .int i_fetchedSteps])), (hp, .inr (4, [.int 0, .int p_i_going, .int p_i_writesLeft]))] sz)) 0 0 (va_A [(h0, .inr (0, [v_documents, v_buffer, v_fetched, v_compared, v_maker, v_writer, .ref hp, .int i_madeDocuments, .int i_fetchedSteps])), (hp, .inr (4, [.int 0, .int p_i_going, .int p_i_writesLeft]))] sz) := by
  refine Met.ofW (cc := prog_1_method_18_code) (maxL := 2) (ret := (some .boolean)) (by decide) rfl ?_
  intro p e s m args below meth c s₁ B hml hv
  obtain ⟨rfl, hsz, hP, hK, hD0, hN⟩ := hv
  have hx := B.exec
  have hb := B.bytes
  have hr := B.returns
  have hts := atoms_spec (ws := k_K_cutAfter) B.pre
  have hw0 : ∀ w ∈ w0, w.before _ s = true := fun w h => hts w (List.mem_cons_of_mem _ h)
  have hown : s.vm.findClass R_K = some m.cls := findClass_of_methodNamed B.named
  have hlocks := B.notSynchronized
  subst hsz
  have hD := hD0.self (sz := s.heap.size)
  generalize hAe : va_A [(h0, .inr (0, [v_documents, v_buffer, v_fetched, v_compared, v_maker, v_writer, .ref hp, .int i_madeDocuments, .int i_fetchedSteps])), (hp, .inr (4, [.int 0, .int p_i_going, .int p_i_writesLeft]))] s.heap.size = A at hD ⊢
  have hA : ∀ q : Nat, s.heap.size ≤ q → A q := fun q h => by rw [← hAe]; exact Or.inr h
  have hS : va_S A s.heap s.heap [] := va_S.rf
  have hP : va_P (dC, dI) vwCl [(h0, .inr (0, [v_documents, v_buffer, v_fetched, v_compared, v_maker, v_writer, .ref hp, .int i_madeDocuments, .int i_fetchedSteps])), (hp, .inr (4, [.int 0, .int p_i_going, .int p_i_writesLeft]))] s.heap := hP
  have hl := lv_entry ([.ref h0, .int a1]) (n := 2) (Nat.le_of_ble_eq_true rfl)
  rw [lg_entry_eq]
  generalize (lg_sl ([.ref h0, .int a1]) ++ List.replicate (2 - (lg_sl ([.ref h0, .int a1])).length) Slot.unset).toArray = ls at hl ⊢
  have hl : lv_has ls 2 [(0, .ref h0), (1, .int a1)] := hl
  refine lv_aload_n hx hb d_K_cutAfter_0 rfl (lv_at hl 0 rfl) ?_
  have hPc := hP.sub (ws' := [(h0, .inr (0, [v_documents, v_buffer, v_fetched, v_compared, v_maker, v_writer, .ref hp, .int i_madeDocuments, .int i_fetchedSteps])), (hp, .inr (4, [.int 0, .int p_i_going, .int p_i_writesLeft]))]) [0, 1] rfl
  have hKc := hK.sub (tys' := []) [] rfl
  refine ps_v (va_runV (As := []) (rest := []) ⟨hx, hb, hml, hown, hw0⟩ (c_needPower l dC dI h0 v_documents v_buffer v_fetched v_compared v_maker v_writer i_madeDocuments i_fetchedSteps hp p_i_going p_i_writesLeft) (cwV 0 hw0 (gd_V 113 114 115 111 116 rfl rfl rfl rfl rfl) rfl rfl rfl (by decide +kernel) ⟨by decide +kernel, by decide +kernel⟩) (prV_R hPc hKc hN (va_recv hKc hPc (ci := 0) (q0 := 0) rfl rfl)) rfl rfl hl.1 rfl (lv_room (Nat.le_of_ble_eq_true rfl)) d_K_cutAfter_1 ⟨by decide +kernel, by decide +kernel⟩) ?_
  refine lv_iload_n hx hb d_K_cutAfter_4 rfl (lv_at hl 1 rfl) ?_
  refine lv_if_ge (tgt := 10) hx hb d_K_cutAfter_5 (by decide) (fun c_1 => ?_) (fun c_1 => absurd (Int32.not_lt.mp h1) c_1)
  refine lv_aload_n hx hb d_K_cutAfter_10 rfl (lv_at hl 0 rfl) ?_
  refine va_get (D := (dC, dI)) (ci := 0) (v := .ref hp) (C := R_K) (T := F_K) (N := 9) hx hb hw0 in_K hown hK hP 0 rfl rfl 6 (by decide) (hw0 (.fieldLink R_K 45 "TextKeeper" "power" "LTextKeeper$Power;") (List.mem_of_getElem? (i := 105) rfl)) (fun _ h9 => h9) rfl d_K_cutAfter_11 ?_
  refine lv_iload_n hx hb d_K_cutAfter_14 rfl (lv_at hl 1 rfl) ?_
  have hPc := hP.sub (ws' := [(hp, .inr (4, [.int 0, .int p_i_going, .int p_i_writesLeft]))]) [1] rfl
  have hKc := hK.sub (tys' := []) [] rfl
  have hDc := hD.sub (ws' := [(hp, .inr (4, [.int 0, .int p_i_going, .int p_i_writesLeft]))]) [1] (by decide) rfl
  have hFc := va_free (wc := [(hp, .inr (4, [.int 0, .int p_i_going, .int p_i_writesLeft]))]) hD hS hA [1] rfl
  refine va_callv (va_runV (As := [.int a1]) (rest := []) ⟨hx, hb, hml, hown, hw0⟩ (c_goAfter l dC dI s.heap.size hp 0 p_i_going p_i_writesLeft a1) (cwV 1 hw0 (gd_V 163 164 165 101 166 rfl rfl rfl rfl rfl) rfl rfl rfl (by decide +kernel) ⟨by decide +kernel, by decide +kernel⟩) (prV_E hPc hKc hDc hN (va_recv hKc hPc (ci := 4) (q0 := 0) rfl rfl)) rfl rfl hl.1 rfl (lv_room (Nat.le_of_ble_eq_true rfl)) d_K_cutAfter_15 ⟨by decide +kernel, by decide +kernel⟩) hS (fun q _ h => hFc q h) hFc (fun u t H1 locs ht hvm hw hB hz1 hk1 hS => ?_)
  obtain ⟨hP1, hK1, hD1⟩ := hB
  rw [ht] at hP1
  have hK1 := va_K.moved hvm.symm hK1
  try dsimp only at hw
  obtain ⟨hP, hD⟩ := va_join (wr := [(h0, .inr (0, [v_documents, v_buffer, v_fetched, v_compared, v_maker, v_writer, .ref hp, .int i_madeDocuments, .int i_fetchedSteps]))]) (w1 := []) hP hD [1] [0] rfl rfl (by decide) (by decide) hk1 hFc hP1 hD1
  generalize H1 = H at hP hS ⊢
  replace hP : va_P (dC, dI) vwCl [(h0, .inr (0, [v_documents, v_buffer, v_fetched, v_compared, v_maker, v_writer, .ref hp, .int i_madeDocuments, .int i_fetchedSteps]))] H := hP
  replace hD : va_D A [(h0, .inr (0, [v_documents, v_buffer, v_fetched, v_compared, v_maker, v_writer, .ref hp, .int i_madeDocuments, .int i_fetchedSteps]))] := hD
  replace hK : va_K (dC, dI) vwCl [] s := hK
  refine lv_iconst (v := 1) hx hb d_K_cutAfter_18 (by decide) ?_
  have hP9 := hP.sub (ws' := []) [] rfl
  have hD9 := hD.sub (ws' := []) [] (by decide) rfl
  have hK9 := hK.sub (tys' := []) [] rfl
  exact W.zret (v := 1) (ty := .boolean) hx hb hr rfl (fun t ht hW => ⟨⟨1, (), rfl, rfl, by rw [ht]; exact hP9, va_K.moved hW.alike hK9, hD9⟩, hS.F ht⟩) hS.2.2 d_K_cutAfter_19
set_option maxHeartbeats 4000000 in
set_option maxRecDepth 100000 in
theorem c_cutAfter_F (l : Launch) (dC : Nat → ClassId) (dI : Nat → Nat → Nat) (h0 : Nat) (v_documents : Value) (v_buffer : Value) (v_fetched : Value) (v_compared : Value) (v_maker : Value) (v_writer : Value) (i_madeDocuments : Int32) (i_fetchedSteps : Int32) (hp : Nat) (p_i_going : Int32) (p_i_writesLeft : Int32) (a1 : Int32) (h1 : a1 < 0) : Met l y_K_cutAfter k_K_cutAfter ({ frames := 1, cells := 0, slots := 0, locals := 20 } : Room) (va_Pc [.ref h0, .int a1] (pc_R (dC, dI) [(h0, .inr (0, [v_documents, v_buffer, v_fetched, v_compared, v_maker, v_writer, .ref hp, .int i_madeDocuments, .int i_fetchedSteps])), (hp, .inr (4, [.int 0, .int p_i_going, .int p_i_writesLeft]))] [])) (vp_Si (fun r => r = 0)) 0 0 (fun _ => False) := by
  refine Met.ofW (cc := prog_1_method_18_code) (maxL := 2) (ret := (some .boolean)) (by decide) rfl ?_
  intro p e s m args below meth c s₁ B hml hv
  obtain ⟨rfl, hP, hK, hN⟩ := hv
  have hx := B.exec
  have hb := B.bytes
  have hr := B.returns
  have hts := atoms_spec (ws := k_K_cutAfter) B.pre
  have hw0 : ∀ w ∈ w0, w.before _ s = true := fun w h => hts w (List.mem_cons_of_mem _ h)
  have hown : s.vm.findClass R_K = some m.cls := findClass_of_methodNamed B.named
  have hlocks := B.notSynchronized
  have hP : va_P (dC, dI) vwCl [(h0, .inr (0, [v_documents, v_buffer, v_fetched, v_compared, v_maker, v_writer, .ref hp, .int i_madeDocuments, .int i_fetchedSteps])), (hp, .inr (4, [.int 0, .int p_i_going, .int p_i_writesLeft]))] s.heap := hP
  have hl := lv_entry ([.ref h0, .int a1]) (n := 2) (Nat.le_of_ble_eq_true rfl)
  rw [lg_entry_eq]
  generalize (lg_sl ([.ref h0, .int a1]) ++ List.replicate (2 - (lg_sl ([.ref h0, .int a1])).length) Slot.unset).toArray = ls at hl ⊢
  have hl : lv_has ls 2 [(0, .ref h0), (1, .int a1)] := hl
  refine lv_aload_n hx hb d_K_cutAfter_0 rfl (lv_at hl 0 rfl) ?_
  have hPc := hP.sub (ws' := [(h0, .inr (0, [v_documents, v_buffer, v_fetched, v_compared, v_maker, v_writer, .ref hp, .int i_madeDocuments, .int i_fetchedSteps])), (hp, .inr (4, [.int 0, .int p_i_going, .int p_i_writesLeft]))]) [0, 1] rfl
  have hKc := hK.sub (tys' := []) [] rfl
  refine ps_v (va_runV (As := []) (rest := []) ⟨hx, hb, hml, hown, hw0⟩ (c_needPower l dC dI h0 v_documents v_buffer v_fetched v_compared v_maker v_writer i_madeDocuments i_fetchedSteps hp p_i_going p_i_writesLeft) (cwV 0 hw0 (gd_V 113 114 115 111 116 rfl rfl rfl rfl rfl) rfl rfl rfl (by decide +kernel) ⟨by decide +kernel, by decide +kernel⟩) (prV_R hPc hKc hN (va_recv hKc hPc (ci := 0) (q0 := 0) rfl rfl)) rfl rfl hl.1 rfl (lv_room (Nat.le_of_ble_eq_true rfl)) d_K_cutAfter_1 ⟨by decide +kernel, by decide +kernel⟩) ?_
  refine lv_iload_n hx hb d_K_cutAfter_4 rfl (lv_at hl 1 rfl) ?_
  refine lv_if_ge (tgt := 10) hx hb d_K_cutAfter_5 (by decide) (fun c_1 => absurd h1 (Int32.not_lt.mpr c_1)) (fun c_1 => ?_)
  refine lv_iconst (v := 0) hx hb d_K_cutAfter_8 (by decide) ?_
  exact W.zret (v := 0) (ty := .boolean) hx hb hr rfl (fun t ht hW => ⟨0, rfl, rfl, ht⟩) (fun q h => by cases h) d_K_cutAfter_9
