set_option maxHeartbeats 4000000 in
set_option maxRecDepth 100000 in
theorem c_Power_init (l : Launch) (dC : Nat → ClassId) (dI : Nat → Nat → Nat) (sz : Nat) (h0 : Nat)  : Met l y_P_init k_P_init ({ frames := 1, cells := 0, slots := 0, locals := 12 } : Room) (va_Pc [.ref h0] (pc_E (dC, dI) [(h0, .inr (4, [.int 0, .int 0, .int 0]))] [] sz)) (va_Qv (fun (_ : Unit) => True) (fun (_ : Unit) t => at_E (dC, dI) (va_A [(h0, .inr (4, [.int 0, .int 0, .int 0]))] sz) [(h0, .inr (4, [.int 0, .int 0, .int 0]))] [] t) (va_A [(h0, .inr (4, [.int 0, .int 0, .int 0]))] sz)) 0 0 (va_A [(h0, .inr (4, [.int 0, .int 0, .int 0]))] sz) := by
  refine Met.ofW (cc := prog_5_method_1_code) (maxL := 1) (ret := none) (by decide) rfl ?_
  intro p e s m args below meth c s₁ B hml hv
  obtain ⟨rfl, hsz, hP, hK, hD0, hN⟩ := hv
  have hx := B.exec
  have hb := B.bytes
  have hr := B.returns
  have hts := atoms_spec (ws := k_P_init) B.pre
  have hw0 : ∀ w ∈ w0, w.before _ s = true := fun w h => hts w (List.mem_cons_of_mem _ h)
  have hown : s.vm.findClass R_P = some m.cls := findClass_of_methodNamed B.named
  have hlocks := B.notSynchronized
  have hin : meth.name = "<init>" := (name_of_methodNamed B.named B.method).1
  subst hsz
  have hD := hD0.self (sz := s.heap.size)
  generalize hAe : va_A [(h0, .inr (4, [.int 0, .int 0, .int 0]))] s.heap.size = A at hD ⊢
  have hA : ∀ q : Nat, s.heap.size ≤ q → A q := fun q h => by rw [← hAe]; exact Or.inr h
  have hS : va_S A s.heap s.heap [] := va_S.rf
  have hP : va_P (dC, dI) vwCl [(h0, .inr (4, [.int 0, .int 0, .int 0]))] s.heap := hP
  have hl := lv_entry ([.ref h0]) (n := 1) (Nat.le_of_ble_eq_true rfl)
  rw [lg_entry_eq]
  generalize (lg_sl ([.ref h0]) ++ List.replicate (1 - (lg_sl ([.ref h0])).length) Slot.unset).toArray = ls at hl ⊢
  have hl : lv_has ls 1 [(0, .ref h0)] := hl
  refine lv_aload_n hx hb d_P_init_0 rfl (lv_at hl 0 rfl) ?_
  refine W.objInit hx hb hown (hw0 (.methodLink R_P 1 objectInit) (List.mem_of_getElem? (i := 53) rfl)) (hw0 (.instanceMethod objectInit) (List.mem_of_getElem? (i := 54) rfl)) (hw0 (.code objectInit ⟨#[0xb1]⟩ 1 none) (List.mem_of_getElem? (i := 55) rfl)) rfl (by rw [hml]; exact hl.1) rfl d_P_init_1 (Nat.le_of_ble_eq_true rfl) (Nat.le_of_ble_eq_true rfl) ?_
  refine W.eq (g2 := F0 m 4 ls []) rfl ?_
  refine lv_aload_n hx hb d_P_init_4 rfl (lv_at hl 0 rfl) ?_
  refine lv_iconst (v := 0) hx hb d_P_init_5 (by decide) ?_
  refine va_put (D := (dC, dI)) (ci := 4) (v := .int 0) (ty := .boolean) (C := R_P) (T := F_P) (N := 3) hx hb hw0 in_P ft_P tk_P nk_P hown hK hP hD hS 0 rfl rfl 0 (by decide) (hw0 (.fieldLink R_P 7 "TextKeeper$Power" "down" "Z") (List.mem_of_getElem? (i := 56) rfl)) (fun _ h9 => h9) rfl (by decide +kernel) rfl rfl (Nat.le_of_ble_eq_true rfl) d_P_init_6 (fun H locs hP hD hS => ?_)
  replace hP : va_P (dC, dI) vwCl [(h0, .inr (4, [.int 0, .int 0, .int 0]))] H := hP
  replace hD : va_D A [(h0, .inr (4, [.int 0, .int 0, .int 0]))] := hD
  refine lv_aload_n hx hb d_P_init_9 rfl (lv_at hl 0 rfl) ?_
  refine lv_iconst (v := 0) hx hb d_P_init_10 (by decide) ?_
  refine va_put (D := (dC, dI)) (ci := 4) (v := .int 0) (ty := .boolean) (C := R_P) (T := F_P) (N := 3) hx hb hw0 in_P ft_P tk_P nk_P hown hK hP hD hS 0 rfl rfl 1 (by decide) (hw0 (.fieldLink R_P 13 "TextKeeper$Power" "going" "Z") (List.mem_of_getElem? (i := 57) rfl)) (fun _ h9 => h9) rfl (by decide +kernel) rfl rfl (Nat.le_of_ble_eq_true rfl) d_P_init_11 (fun H locs hP hD hS => ?_)
  replace hP : va_P (dC, dI) vwCl [(h0, .inr (4, [.int 0, .int 0, .int 0]))] H := hP
  replace hD : va_D A [(h0, .inr (4, [.int 0, .int 0, .int 0]))] := hD
  refine lv_aload_n hx hb d_P_init_14 rfl (lv_at hl 0 rfl) ?_
  refine lv_iconst (v := 0) hx hb d_P_init_15 (by decide) ?_
  refine va_put (D := (dC, dI)) (ci := 4) (v := .int 0) (ty := .int) (C := R_P) (T := F_P) (N := 3) hx hb hw0 in_P ft_P tk_P nk_P hown hK hP hD hS 0 rfl rfl 2 (by decide) (hw0 (.fieldLink R_P 16 "TextKeeper$Power" "writesLeft" "I") (List.mem_of_getElem? (i := 58) rfl)) (fun _ h9 => h9) rfl (by decide +kernel) rfl rfl (Nat.le_of_ble_eq_true rfl) d_P_init_16 (fun H locs hP hD hS => ?_)
  replace hP : va_P (dC, dI) vwCl [(h0, .inr (4, [.int 0, .int 0, .int 0]))] H := hP
  replace hD : va_D A [(h0, .inr (4, [.int 0, .int 0, .int 0]))] := hD
  have hP9 := hP.sub (ws' := [(h0, .inr (4, [.int 0, .int 0, .int 0]))]) [0] rfl
  have hD9 := hD.sub (ws' := [(h0, .inr (4, [.int 0, .int 0, .int 0]))]) [0] (by decide) rfl
  have hK9 := hK.sub (tys' := []) [] rfl
  exact W.vret hx hb hr (fun t ht hW => ⟨⟨(), rfl, trivial, by rw [ht]; exact hP9, va_K.moved hW.alike hK9, hD9⟩, hS.F ht⟩) hS.2.2 d_P_init_19
set_option maxHeartbeats 4000000 in
set_option maxRecDepth 100000 in
theorem c_Text_init (l : Launch) (dC : Nat → ClassId) (dI : Nat → Nat → Nat) (sz : Nat) (h0 : Nat)  : Met l y_T_init k_T_init ({ frames := 1, cells := 1, slots := 256, locals := 12 } : Room) (va_Pc [.ref h0] (pc_E (dC, dI) [(h0, .inr (1, [.null, .int 0]))] [] sz)) (va_Qv (fun (_ : Unit) => True) (fun (_ : Unit) t => ∃ (q1 : Nat) (cB : ClassId), at_E (dC, dI) (va_A [(h0, .inr (1, [.null, .int 0]))] sz) [(h0, .inr (1, [.ref q1, .int 0])), (q1, .inl (cB, 256, .inl (fun _ => 0)))] [(cB, .byte)] t) (va_A [(h0, .inr (1, [.null, .int 0]))] sz)) 1 256 (va_A [(h0, .inr (1, [.null, .int 0]))] sz) := by
  refine Met.ofW (cc := prog_7_method_1_code) (maxL := 1) (ret := none) (by decide) rfl ?_
  intro p e s m args below meth c s₁ B hml hv
  obtain ⟨rfl, hsz, hP, hK, hD0, hN⟩ := hv
  have hx := B.exec
  have hb := B.bytes
  have hr := B.returns
  have hts := atoms_spec (ws := k_T_init) B.pre
  have hw0 : ∀ w ∈ w0, w.before _ s = true := fun w h => hts w (List.mem_cons_of_mem _ h)
  have hown : s.vm.findClass R_T = some m.cls := findClass_of_methodNamed B.named
  have hlocks := B.notSynchronized
  have hin : meth.name = "<init>" := (name_of_methodNamed B.named B.method).1
  subst hsz
  have hD := hD0.self (sz := s.heap.size)
  generalize hAe : va_A [(h0, .inr (1, [.null, .int 0]))] s.heap.size = A at hD ⊢
  have hA : ∀ q : Nat, s.heap.size ≤ q → A q := fun q h => by rw [← hAe]; exact Or.inr h
  have hS : va_S A s.heap s.heap [] := va_S.rf
  have hP : va_P (dC, dI) vwCl [(h0, .inr (1, [.null, .int 0]))] s.heap := hP
  have hl := lv_entry ([.ref h0]) (n := 1) (Nat.le_of_ble_eq_true rfl)
  rw [lg_entry_eq]
  generalize (lg_sl ([.ref h0]) ++ List.replicate (1 - (lg_sl ([.ref h0])).length) Slot.unset).toArray = ls at hl ⊢
  have hl : lv_has ls 1 [(0, .ref h0)] := hl
  refine lv_aload_n hx hb d_T_init_0 rfl (lv_at hl 0 rfl) ?_
  refine W.objInit hx hb hown (hw0 (.methodLink R_T 3 objectInit) (List.mem_of_getElem? (i := 59) rfl)) (hw0 (.instanceMethod objectInit) (List.mem_of_getElem? (i := 54) rfl)) (hw0 (.code objectInit ⟨#[0xb1]⟩ 1 none) (List.mem_of_getElem? (i := 55) rfl)) rfl (by rw [hml]; exact hl.1) rfl d_T_init_1 (Nat.le_of_ble_eq_true rfl) (Nat.le_of_ble_eq_true rfl) ?_
  refine W.eq (g2 := F0 m 4 ls []) rfl ?_
  refine lv_aload_n hx hb d_T_init_4 rfl (lv_at hl 0 rfl) ?_
  refine lv_sipush (v := 256) hx hb d_T_init_5 (by decide +kernel) ?_
  refine va_newa (atype := .byte) (ty := .byte) (N' := 256) (a0 := (256, .inl (fun _ => 0))) hx hb (hw0 (.arrayClass .byte) (List.mem_of_getElem? (i := 60) rfl)) rfl hK hP hD hS hA (fun _ => rfl) (by decide +kernel) (by decide +kernel) (by decide +kernel) (by decide +kernel) (by decide +kernel) d_T_init_8 (fun q_1 cA_2 H hK hP hD hS => ?_)
  replace hK : va_K (dC, dI) vwCl [(cA_2, .byte)] s := hK
  replace hP : va_P (dC, dI) vwCl [(h0, .inr (1, [.null, .int 0])), (q_1, .inl (cA_2, 256, .inl (fun _ => 0)))] H := hP
  replace hD : va_D A [(h0, .inr (1, [.null, .int 0])), (q_1, .inl (cA_2, 256, .inl (fun _ => 0)))] := hD
  refine W.widen (k := 1) (n := 256) (by decide +kernel) (by decide +kernel) ?_
  refine va_putF (D := (dC, dI)) (ci := 1) (v := .ref q_1) (ty := (.array .byte)) (C := R_T) (T := F_T) (N := 2) hx hb hw0 in_T ft_T tk_T nk_T hown hK hP hD hS 0 rfl rfl 0 (by decide) (hw0 (.fieldLink R_T 9 "TextKeeper$Text" "bytes" "[B") (List.mem_of_getElem? (i := 61) rfl)) (fun _ h9 => h9) rfl hin rfl (by decide +kernel) rfl rfl (Nat.le_of_ble_eq_true rfl) d_T_init_10 (fun H locs hP hD hS => ?_)
  replace hP : va_P (dC, dI) vwCl [(h0, .inr (1, [.ref q_1, .int 0])), (q_1, .inl (cA_2, 256, .inl (fun _ => 0)))] H := hP
  replace hD : va_D A [(h0, .inr (1, [.ref q_1, .int 0])), (q_1, .inl (cA_2, 256, .inl (fun _ => 0)))] := hD
  refine lv_aload_n hx hb d_T_init_13 rfl (lv_at hl 0 rfl) ?_
  refine lv_iconst (v := 0) hx hb d_T_init_14 (by decide) ?_
  refine va_put (D := (dC, dI)) (ci := 1) (v := .int 0) (ty := .int) (C := R_T) (T := F_T) (N := 2) hx hb hw0 in_T ft_T tk_T nk_T hown hK hP hD hS 0 rfl rfl 1 (by decide) (hw0 (.fieldLink R_T 15 "TextKeeper$Text" "length" "I") (List.mem_of_getElem? (i := 62) rfl)) (fun _ h9 => h9) rfl (by decide +kernel) rfl rfl (Nat.le_of_ble_eq_true rfl) d_T_init_15 (fun H locs hP hD hS => ?_)
  replace hP : va_P (dC, dI) vwCl [(h0, .inr (1, [.ref q_1, .int 0])), (q_1, .inl (cA_2, 256, .inl (fun _ => 0)))] H := hP
  replace hD : va_D A [(h0, .inr (1, [.ref q_1, .int 0])), (q_1, .inl (cA_2, 256, .inl (fun _ => 0)))] := hD
  have hP9 := hP.sub (ws' := [(h0, .inr (1, [.ref q_1, .int 0])), (q_1, .inl (cA_2, 256, .inl (fun _ => 0)))]) [0, 1] rfl
  have hD9 := hD.sub (ws' := [(h0, .inr (1, [.ref q_1, .int 0])), (q_1, .inl (cA_2, 256, .inl (fun _ => 0)))]) [0, 1] (by decide) rfl
  have hK9 := hK.sub (tys' := [(cA_2, .byte)]) [0] rfl
  exact W.vret hx hb hr (fun t ht hW => ⟨⟨(), rfl, trivial, q_1, cA_2, by rw [ht]; exact hP9, va_K.moved hW.alike hK9, hD9⟩, hS.F ht⟩) hS.2.2 d_T_init_18
set_option maxHeartbeats 4000000 in
set_option maxRecDepth 100000 in
theorem c_PieceWriter_init (l : Launch) (dC : Nat → ClassId) (dI : Nat → Nat → Nat) (sz : Nat) (h0 : Nat)  : Met l y_W_init k_W_init ({ frames := 1, cells := 1, slots := 512, locals := 12 } : Room) (va_Pc [.ref h0] (pc_E (dC, dI) [(h0, .inr (3, [.null, .int 0]))] [] sz)) (va_Qv (fun (_ : Unit) => True) (fun (_ : Unit) t => ∃ (q1 : Nat), at_E (dC, dI) (va_A [(h0, .inr (3, [.null, .int 0]))] sz) [(h0, .inr (3, [.ref q1, .int 0]))] [] t) (va_A [(h0, .inr (3, [.null, .int 0]))] sz)) 1 512 (va_A [(h0, .inr (3, [.null, .int 0]))] sz) := by
  refine Met.ofW (cc := prog_4_method_1_code) (maxL := 1) (ret := none) (by decide) rfl ?_
  intro p e s m args below meth c s₁ B hml hv
  obtain ⟨rfl, hsz, hP, hK, hD0, hN⟩ := hv
  have hx := B.exec
  have hb := B.bytes
  have hr := B.returns
  have hts := atoms_spec (ws := k_W_init) B.pre
  have hw0 : ∀ w ∈ w0, w.before _ s = true := fun w h => hts w (List.mem_cons_of_mem _ h)
  have hown : s.vm.findClass R_W = some m.cls := findClass_of_methodNamed B.named
  have hlocks := B.notSynchronized
  have hin : meth.name = "<init>" := (name_of_methodNamed B.named B.method).1
  subst hsz
  have hD := hD0.self (sz := s.heap.size)
  generalize hAe : va_A [(h0, .inr (3, [.null, .int 0]))] s.heap.size = A at hD ⊢
  have hA : ∀ q : Nat, s.heap.size ≤ q → A q := fun q h => by rw [← hAe]; exact Or.inr h
  have hS : va_S A s.heap s.heap [] := va_S.rf
  have hP : va_P (dC, dI) vwCl [(h0, .inr (3, [.null, .int 0]))] s.heap := hP
  have hl := lv_entry ([.ref h0]) (n := 1) (Nat.le_of_ble_eq_true rfl)
  rw [lg_entry_eq]
  generalize (lg_sl ([.ref h0]) ++ List.replicate (1 - (lg_sl ([.ref h0])).length) Slot.unset).toArray = ls at hl ⊢
  have hl : lv_has ls 1 [(0, .ref h0)] := hl
  refine lv_aload_n hx hb d_W_init_0 rfl (lv_at hl 0 rfl) ?_
  refine W.objInit hx hb hown (hw0 (.methodLink R_W 3 objectInit) (List.mem_of_getElem? (i := 63) rfl)) (hw0 (.instanceMethod objectInit) (List.mem_of_getElem? (i := 54) rfl)) (hw0 (.code objectInit ⟨#[0xb1]⟩ 1 none) (List.mem_of_getElem? (i := 55) rfl)) rfl (by rw [hml]; exact hl.1) rfl d_W_init_1 (Nat.le_of_ble_eq_true rfl) (Nat.le_of_ble_eq_true rfl) ?_
  refine W.eq (g2 := F0 m 4 ls []) rfl ?_
  refine lv_aload_n hx hb d_W_init_4 rfl (lv_at hl 0 rfl) ?_
  refine lv_sipush (v := 512) hx hb d_W_init_5 (by decide +kernel) ?_
  refine va_newa (atype := .byte) (ty := .byte) (N' := 512) (a0 := (512, .inl (fun _ => 0))) hx hb (hw0 (.arrayClass .byte) (List.mem_of_getElem? (i := 60) rfl)) rfl hK hP hD hS hA (fun _ => rfl) (by decide +kernel) (by decide +kernel) (by decide +kernel) (by decide +kernel) (by decide +kernel) d_W_init_8 (fun q_1 cA_2 H hK hP hD hS => ?_)
  replace hK : va_K (dC, dI) vwCl [(cA_2, .byte)] s := hK
  replace hP : va_P (dC, dI) vwCl [(h0, .inr (3, [.null, .int 0])), (q_1, .inl (cA_2, 512, .inl (fun _ => 0)))] H := hP
  replace hD : va_D A [(h0, .inr (3, [.null, .int 0])), (q_1, .inl (cA_2, 512, .inl (fun _ => 0)))] := hD
  refine W.widen (k := 1) (n := 512) (by decide +kernel) (by decide +kernel) ?_
  refine va_putF (D := (dC, dI)) (ci := 3) (v := .ref q_1) (ty := (.array .byte)) (C := R_W) (T := F_W) (N := 2) hx hb hw0 in_W ft_W tk_W nk_W hown hK hP hD hS 0 rfl rfl 0 (by decide) (hw0 (.fieldLink R_W 9 "TextKeeper$PieceWriter" "row" "[B") (List.mem_of_getElem? (i := 64) rfl)) (fun _ h9 => h9) rfl hin rfl (by decide +kernel) rfl rfl (Nat.le_of_ble_eq_true rfl) d_W_init_10 (fun H locs hP hD hS => ?_)
  replace hP : va_P (dC, dI) vwCl [(h0, .inr (3, [.ref q_1, .int 0])), (q_1, .inl (cA_2, 512, .inl (fun _ => 0)))] H := hP
  replace hD : va_D A [(h0, .inr (3, [.ref q_1, .int 0])), (q_1, .inl (cA_2, 512, .inl (fun _ => 0)))] := hD
  refine lv_aload_n hx hb d_W_init_13 rfl (lv_at hl 0 rfl) ?_
  refine lv_iconst (v := 0) hx hb d_W_init_14 (by decide) ?_
  refine va_put (D := (dC, dI)) (ci := 3) (v := .int 0) (ty := .int) (C := R_W) (T := F_W) (N := 2) hx hb hw0 in_W ft_W tk_W nk_W hown hK hP hD hS 0 rfl rfl 1 (by decide) (hw0 (.fieldLink R_W 15 "TextKeeper$PieceWriter" "length" "I") (List.mem_of_getElem? (i := 65) rfl)) (fun _ h9 => h9) rfl (by decide +kernel) rfl rfl (Nat.le_of_ble_eq_true rfl) d_W_init_15 (fun H locs hP hD hS => ?_)
  replace hP : va_P (dC, dI) vwCl [(h0, .inr (3, [.ref q_1, .int 0])), (q_1, .inl (cA_2, 512, .inl (fun _ => 0)))] H := hP
  replace hD : va_D A [(h0, .inr (3, [.ref q_1, .int 0])), (q_1, .inl (cA_2, 512, .inl (fun _ => 0)))] := hD
  have hP9 := hP.sub (ws' := [(h0, .inr (3, [.ref q_1, .int 0]))]) [0] rfl
  have hD9 := hD.sub (ws' := [(h0, .inr (3, [.ref q_1, .int 0]))]) [0] (by decide) rfl
  have hK9 := hK.sub (tys' := []) [] rfl
  exact W.vret hx hb hr (fun t ht hW => ⟨⟨(), rfl, trivial, q_1, by rw [ht]; exact hP9, va_K.moved hW.alike hK9, hD9⟩, hS.F ht⟩) hS.2.2 d_W_init_18
set_option maxHeartbeats 4000000 in
set_option maxRecDepth 100000 in
theorem c_Maker_init (l : Launch) (dC : Nat → ClassId) (dI : Nat → Nat → Nat) (sz : Nat) (h0 : Nat)  : Met l y_M_init k_M_init ({ frames := 2, cells := 5, slots := 516, locals := 32 } : Room) (va_Pc [.ref h0] (pc_E (dC, dI) [(h0, .inr (2, [.null, .null, .null, .int 0]))] [] sz)) (va_Qv (fun (_ : Unit) => True) (fun (_ : Unit) t => ∃ (q1 : Nat) (q2 : Nat) (q3 : Nat), at_E (dC, dI) (va_A [(h0, .inr (2, [.null, .null, .null, .int 0]))] sz) [(h0, .inr (2, [.ref q1, .ref q2, .ref q3, .int 0]))] [] t) (va_A [(h0, .inr (2, [.null, .null, .null, .int 0]))] sz)) 5 516 (va_A [(h0, .inr (2, [.null, .null, .null, .int 0]))] sz) := by
  refine Met.ofW (cc := prog_3_method_1_code) (maxL := 1) (ret := none) (by decide) rfl ?_
  intro p e s m args below meth c s₁ B hml hv
  obtain ⟨rfl, hsz, hP, hK, hD0, hN⟩ := hv
  have hx := B.exec
  have hb := B.bytes
  have hr := B.returns
  have hts := atoms_spec (ws := k_M_init) B.pre
  have hw0 : ∀ w ∈ w0, w.before _ s = true := fun w h => hts w (List.mem_cons_of_mem _ h)
  have hown : s.vm.findClass R_M = some m.cls := findClass_of_methodNamed B.named
  have hlocks := B.notSynchronized
  have hin : meth.name = "<init>" := (name_of_methodNamed B.named B.method).1
  subst hsz
  have hD := hD0.self (sz := s.heap.size)
  generalize hAe : va_A [(h0, .inr (2, [.null, .null, .null, .int 0]))] s.heap.size = A at hD ⊢
  have hA : ∀ q : Nat, s.heap.size ≤ q → A q := fun q h => by rw [← hAe]; exact Or.inr h
  have hS : va_S A s.heap s.heap [] := va_S.rf
  have hP : va_P (dC, dI) vwCl [(h0, .inr (2, [.null, .null, .null, .int 0]))] s.heap := hP
  have hl := lv_entry ([.ref h0]) (n := 1) (Nat.le_of_ble_eq_true rfl)
  rw [lg_entry_eq]
  generalize (lg_sl ([.ref h0]) ++ List.replicate (1 - (lg_sl ([.ref h0])).length) Slot.unset).toArray = ls at hl ⊢
  have hl : lv_has ls 1 [(0, .ref h0)] := hl
  refine lv_aload_n hx hb d_M_init_0 rfl (lv_at hl 0 rfl) ?_
  refine W.objInit hx hb hown (hw0 (.methodLink R_M 3 objectInit) (List.mem_of_getElem? (i := 66) rfl)) (hw0 (.instanceMethod objectInit) (List.mem_of_getElem? (i := 54) rfl)) (hw0 (.code objectInit ⟨#[0xb1]⟩ 1 none) (List.mem_of_getElem? (i := 55) rfl)) rfl (by rw [hml]; exact hl.1) rfl d_M_init_1 (Nat.le_of_ble_eq_true rfl) (Nat.le_of_ble_eq_true rfl) ?_
  refine W.eq (g2 := F0 m 4 ls []) rfl ?_
  refine lv_aload_n hx hb d_M_init_4 rfl (lv_at hl 0 rfl) ?_
  refine va_new (ci := 1) (fs := [.null, .int 0]) (C := R_T) (T := F_T) (N := 2) hx hb hw0 in_T ft_T tk_T hown (hw0 (.classLink R_M 9 R_T) (List.mem_of_getElem? (i := 67) rfl)) (hw0 (.instantiable R_T 2) (List.mem_of_getElem? (i := 68) rfl)) (hw0 (.initialized R_T) (List.mem_of_getElem? (i := 69) rfl)) hK hP hD hS hA rfl (fun j hj => nw_T j hj) (by decide +kernel) (by decide +kernel) d_M_init_5 (fun q_1 H hP hD hS => ?_)
  replace hP : va_P (dC, dI) vwCl [(h0, .inr (2, [.null, .null, .null, .int 0])), (q_1, .inr (1, [.null, .int 0]))] H := hP
  replace hD : va_D A [(h0, .inr (2, [.null, .null, .null, .int 0])), (q_1, .inr (1, [.null, .int 0]))] := hD
  refine W.widen (k := 1) (n := 2) (by decide +kernel) (by decide +kernel) ?_
  refine lv_dup hx hb d_M_init_8 rfl ?_
  have hPc := hP.sub (ws' := [(q_1, .inr (1, [.null, .int 0]))]) [1] rfl
  have hKc := hK.sub (tys' := []) [] rfl
  have hDc := hD.sub (ws' := [(q_1, .inr (1, [.null, .int 0]))]) [1] (by decide) rfl
  have hFc := va_free (wc := [(q_1, .inr (1, [.null, .int 0]))]) hD hS hA [1] rfl
  refine va_callv (va_runI (As := []) (rest := [.ref q_1, .ref h0]) ⟨hx, hb, hml, hown, hw0⟩ (c_Text_init l dC dI H.size q_1) (cwI 0 hw0 (gd_I 70 rfl) rfl rfl rfl (hw0 (.initialized R_T) (List.mem_of_getElem? (i := 69) rfl)) (hw0 (.methodLink R_M 11 y_T_init) (List.mem_of_getElem? (i := 71) rfl)) (hw0 (.instanceMethod y_T_init) (List.mem_of_getElem? (i := 72) rfl)) rfl (by decide +kernel) ⟨by decide +kernel, by decide +kernel⟩) (prS_E hPc hKc hDc hN) rfl rfl hl.1 rfl (lv_room (Nat.le_of_ble_eq_true rfl)) d_M_init_9 ⟨by decide +kernel, by decide +kernel⟩) hS (fun q _ h => hFc q h) hFc (fun u t H1 locs ht hvm hw hB hz1 hk1 hS => ?_)
  obtain ⟨q1_2, cB_3, hP1, hK1, hD1⟩ := hB
  rw [ht] at hP1
  have hK1 := va_K.moved hvm.symm hK1
  try dsimp only at hw
  obtain ⟨hP, hD⟩ := va_join (wr := [(h0, .inr (2, [.null, .null, .null, .int 0]))]) (w1 := [(q_1, .inr (1, [.ref q1_2, .int 0])), (q1_2, .inl (cB_3, 256, .inl (fun _ => 0)))]) hP hD [1] [0] rfl rfl (by decide) (by decide) hk1 hFc hP1 hD1
  have hK := hK.app (hK1.sub (tys' := [(cB_3, .byte)]) [0] rfl)
  generalize H1 = H at hP hS ⊢
  replace hP : va_P (dC, dI) vwCl [(h0, .inr (2, [.null, .null, .null, .int 0])), (q_1, .inr (1, [.ref q1_2, .int 0])), (q1_2, .inl (cB_3, 256, .inl (fun _ => 0)))] H := hP
  replace hD : va_D A [(h0, .inr (2, [.null, .null, .null, .int 0])), (q_1, .inr (1, [.ref q1_2, .int 0])), (q1_2, .inl (cB_3, 256, .inl (fun _ => 0)))] := hD
  replace hK : va_K (dC, dI) vwCl [(cB_3, .byte)] s := hK
  refine W.widen (k := 2) (n := 258) (by decide +kernel) (by decide +kernel) ?_
  refine va_put (D := (dC, dI)) (ci := 2) (v := .ref q_1) (ty := (.object "TextKeeper$Text")) (C := R_M) (T := F_M) (N := 4) hx hb hw0 in_M ft_M tk_M nk_M hown hK hP hD hS 0 rfl rfl 0 (by decide) (hw0 (.fieldLink R_M 12 "TextKeeper$Maker" "base" "LTextKeeper$Text;") (List.mem_of_getElem? (i := 73) rfl)) (fun _ h9 => h9) rfl (by decide +kernel) rfl rfl (Nat.le_of_ble_eq_true rfl) d_M_init_12 (fun H locs hP hD hS => ?_)
  replace hP : va_P (dC, dI) vwCl [(h0, .inr (2, [.ref q_1, .null, .null, .int 0])), (q_1, .inr (1, [.ref q1_2, .int 0])), (q1_2, .inl (cB_3, 256, .inl (fun _ => 0)))] H := hP
  replace hD : va_D A [(h0, .inr (2, [.ref q_1, .null, .null, .int 0])), (q_1, .inr (1, [.ref q1_2, .int 0])), (q1_2, .inl (cB_3, 256, .inl (fun _ => 0)))] := hD
  refine lv_aload_n hx hb d_M_init_15 rfl (lv_at hl 0 rfl) ?_
  refine va_new (ci := 1) (fs := [.null, .int 0]) (C := R_T) (T := F_T) (N := 2) hx hb hw0 in_T ft_T tk_T hown (hw0 (.classLink R_M 9 R_T) (List.mem_of_getElem? (i := 67) rfl)) (hw0 (.instantiable R_T 2) (List.mem_of_getElem? (i := 68) rfl)) (hw0 (.initialized R_T) (List.mem_of_getElem? (i := 69) rfl)) hK hP hD hS hA rfl (fun j hj => nw_T j hj) (by decide +kernel) (by decide +kernel) d_M_init_16 (fun q_5 H hP hD hS => ?_)
  replace hP : va_P (dC, dI) vwCl [(h0, .inr (2, [.ref q_1, .null, .null, .int 0])), (q_1, .inr (1, [.ref q1_2, .int 0])), (q1_2, .inl (cB_3, 256, .inl (fun _ => 0))), (q_5, .inr (1, [.null, .int 0]))] H := hP
  replace hD : va_D A [(h0, .inr (2, [.ref q_1, .null, .null, .int 0])), (q_1, .inr (1, [.ref q1_2, .int 0])), (q1_2, .inl (cB_3, 256, .inl (fun _ => 0))), (q_5, .inr (1, [.null, .int 0]))] := hD
  refine W.widen (k := 3) (n := 260) (by decide +kernel) (by decide +kernel) ?_
  refine lv_dup hx hb d_M_init_19 rfl ?_
  have hPc := hP.sub (ws' := [(q_5, .inr (1, [.null, .int 0]))]) [3] rfl
  have hKc := hK.sub (tys' := []) [] rfl
  have hDc := hD.sub (ws' := [(q_5, .inr (1, [.null, .int 0]))]) [3] (by decide) rfl
  have hFc := va_free (wc := [(q_5, .inr (1, [.null, .int 0]))]) hD hS hA [3] rfl
  refine va_callv (va_runI (As := []) (rest := [.ref q_5, .ref h0]) ⟨hx, hb, hml, hown, hw0⟩ (c_Text_init l dC dI H.size q_5) (cwI 0 hw0 (gd_I 70 rfl) rfl rfl rfl (hw0 (.initialized R_T) (List.mem_of_getElem? (i := 69) rfl)) (hw0 (.methodLink R_M 11 y_T_init) (List.mem_of_getElem? (i := 71) rfl)) (hw0 (.instanceMethod y_T_init) (List.mem_of_getElem? (i := 72) rfl)) rfl (by decide +kernel) ⟨by decide +kernel, by decide +kernel⟩) (prS_E hPc hKc hDc hN) rfl rfl hl.1 rfl (lv_room (Nat.le_of_ble_eq_true rfl)) d_M_init_20 ⟨by decide +kernel, by decide +kernel⟩) hS (fun q _ h => hFc q h) hFc (fun u t H1 locs ht hvm hw hB hz1 hk1 hS => ?_)
  obtain ⟨q1_6, cB_7, hP1, hK1, hD1⟩ := hB
  rw [ht] at hP1
  have hK1 := va_K.moved hvm.symm hK1
  try dsimp only at hw
  obtain ⟨hP, hD⟩ := va_join (wr := [(h0, .inr (2, [.ref q_1, .null, .null, .int 0])), (q_1, .inr (1, [.ref q1_2, .int 0])), (q1_2, .inl (cB_3, 256, .inl (fun _ => 0)))]) (w1 := [(q_5, .inr (1, [.ref q1_6, .int 0])), (q1_6, .inl (cB_7, 256, .inl (fun _ => 0)))]) hP hD [3] [0, 1, 2] rfl rfl (by decide) (by decide) hk1 hFc hP1 hD1
  have hK := hK.app (hK1.sub (tys' := [(cB_7, .byte)]) [0] rfl)
  generalize H1 = H at hP hS ⊢
  replace hP : va_P (dC, dI) vwCl [(h0, .inr (2, [.ref q_1, .null, .null, .int 0])), (q_1, .inr (1, [.ref q1_2, .int 0])), (q1_2, .inl (cB_3, 256, .inl (fun _ => 0))), (q_5, .inr (1, [.ref q1_6, .int 0])), (q1_6, .inl (cB_7, 256, .inl (fun _ => 0)))] H := hP
  replace hD : va_D A [(h0, .inr (2, [.ref q_1, .null, .null, .int 0])), (q_1, .inr (1, [.ref q1_2, .int 0])), (q1_2, .inl (cB_3, 256, .inl (fun _ => 0))), (q_5, .inr (1, [.ref q1_6, .int 0])), (q1_6, .inl (cB_7, 256, .inl (fun _ => 0)))] := hD
  replace hK : va_K (dC, dI) vwCl [(cB_3, .byte), (cB_7, .byte)] s := hK
  refine W.widen (k := 4) (n := 516) (by decide +kernel) (by decide +kernel) ?_
  refine va_put (D := (dC, dI)) (ci := 2) (v := .ref q_5) (ty := (.object "TextKeeper$Text")) (C := R_M) (T := F_M) (N := 4) hx hb hw0 in_M ft_M tk_M nk_M hown hK hP hD hS 0 rfl rfl 1 (by decide) (hw0 (.fieldLink R_M 18 "TextKeeper$Maker" "text" "LTextKeeper$Text;") (List.mem_of_getElem? (i := 74) rfl)) (fun _ h9 => h9) rfl (by decide +kernel) rfl rfl (Nat.le_of_ble_eq_true rfl) d_M_init_23 (fun H locs hP hD hS => ?_)
  replace hP : va_P (dC, dI) vwCl [(h0, .inr (2, [.ref q_1, .ref q_5, .null, .int 0])), (q_1, .inr (1, [.ref q1_2, .int 0])), (q1_2, .inl (cB_3, 256, .inl (fun _ => 0))), (q_5, .inr (1, [.ref q1_6, .int 0])), (q1_6, .inl (cB_7, 256, .inl (fun _ => 0)))] H := hP
  replace hD : va_D A [(h0, .inr (2, [.ref q_1, .ref q_5, .null, .int 0])), (q_1, .inr (1, [.ref q1_2, .int 0])), (q1_2, .inl (cB_3, 256, .inl (fun _ => 0))), (q_5, .inr (1, [.ref q1_6, .int 0])), (q1_6, .inl (cB_7, 256, .inl (fun _ => 0)))] := hD
  refine lv_aload_n hx hb d_M_init_26 rfl (lv_at hl 0 rfl) ?_
  refine lv_iconst (v := 0) hx hb d_M_init_27 (by decide) ?_
  refine va_newa (atype := .byte) (ty := .byte) (N' := 0) (a0 := (0, .inl (fun _ => 0))) hx hb (hw0 (.arrayClass .byte) (List.mem_of_getElem? (i := 60) rfl)) rfl hK hP hD hS hA (fun _ => rfl) (by decide +kernel) (by decide +kernel) (by decide +kernel) (by decide +kernel) (by decide +kernel) d_M_init_28 (fun q_9 cA_10 H hK hP hD hS => ?_)
  replace hK : va_K (dC, dI) vwCl [(cB_3, .byte), (cB_7, .byte), (cA_10, .byte)] s := hK
  replace hP : va_P (dC, dI) vwCl [(h0, .inr (2, [.ref q_1, .ref q_5, .null, .int 0])), (q_1, .inr (1, [.ref q1_2, .int 0])), (q1_2, .inl (cB_3, 256, .inl (fun _ => 0))), (q_5, .inr (1, [.ref q1_6, .int 0])), (q1_6, .inl (cB_7, 256, .inl (fun _ => 0))), (q_9, .inl (cA_10, 0, .inl (fun _ => 0)))] H := hP
  replace hD : va_D A [(h0, .inr (2, [.ref q_1, .ref q_5, .null, .int 0])), (q_1, .inr (1, [.ref q1_2, .int 0])), (q1_2, .inl (cB_3, 256, .inl (fun _ => 0))), (q_5, .inr (1, [.ref q1_6, .int 0])), (q1_6, .inl (cB_7, 256, .inl (fun _ => 0))), (q_9, .inl (cA_10, 0, .inl (fun _ => 0)))] := hD
  refine W.widen (k := 5) (n := 516) (by decide +kernel) (by decide +kernel) ?_
  refine va_put (D := (dC, dI)) (ci := 2) (v := .ref q_9) (ty := (.array .byte)) (C := R_M) (T := F_M) (N := 4) hx hb hw0 in_M ft_M tk_M nk_M hown hK hP hD hS 0 rfl rfl 2 (by decide) (hw0 (.fieldLink R_M 21 "TextKeeper$Maker" "piece" "[B") (List.mem_of_getElem? (i := 75) rfl)) (fun _ h9 => h9) rfl (by decide +kernel) rfl rfl (Nat.le_of_ble_eq_true rfl) d_M_init_30 (fun H locs hP hD hS => ?_)
  replace hP : va_P (dC, dI) vwCl [(h0, .inr (2, [.ref q_1, .ref q_5, .ref q_9, .int 0])), (q_1, .inr (1, [.ref q1_2, .int 0])), (q1_2, .inl (cB_3, 256, .inl (fun _ => 0))), (q_5, .inr (1, [.ref q1_6, .int 0])), (q1_6, .inl (cB_7, 256, .inl (fun _ => 0))), (q_9, .inl (cA_10, 0, .inl (fun _ => 0)))] H := hP
  replace hD : va_D A [(h0, .inr (2, [.ref q_1, .ref q_5, .ref q_9, .int 0])), (q_1, .inr (1, [.ref q1_2, .int 0])), (q1_2, .inl (cB_3, 256, .inl (fun _ => 0))), (q_5, .inr (1, [.ref q1_6, .int 0])), (q1_6, .inl (cB_7, 256, .inl (fun _ => 0))), (q_9, .inl (cA_10, 0, .inl (fun _ => 0)))] := hD
  refine lv_aload_n hx hb d_M_init_33 rfl (lv_at hl 0 rfl) ?_
  refine lv_iconst (v := 0) hx hb d_M_init_34 (by decide) ?_
  refine va_put (D := (dC, dI)) (ci := 2) (v := .int 0) (ty := .int) (C := R_M) (T := F_M) (N := 4) hx hb hw0 in_M ft_M tk_M nk_M hown hK hP hD hS 0 rfl rfl 3 (by decide) (hw0 (.fieldLink R_M 25 "TextKeeper$Maker" "at" "I") (List.mem_of_getElem? (i := 76) rfl)) (fun _ h9 => h9) rfl (by decide +kernel) rfl rfl (Nat.le_of_ble_eq_true rfl) d_M_init_35 (fun H locs hP hD hS => ?_)
  replace hP : va_P (dC, dI) vwCl [(h0, .inr (2, [.ref q_1, .ref q_5, .ref q_9, .int 0])), (q_1, .inr (1, [.ref q1_2, .int 0])), (q1_2, .inl (cB_3, 256, .inl (fun _ => 0))), (q_5, .inr (1, [.ref q1_6, .int 0])), (q1_6, .inl (cB_7, 256, .inl (fun _ => 0))), (q_9, .inl (cA_10, 0, .inl (fun _ => 0)))] H := hP
  replace hD : va_D A [(h0, .inr (2, [.ref q_1, .ref q_5, .ref q_9, .int 0])), (q_1, .inr (1, [.ref q1_2, .int 0])), (q1_2, .inl (cB_3, 256, .inl (fun _ => 0))), (q_5, .inr (1, [.ref q1_6, .int 0])), (q1_6, .inl (cB_7, 256, .inl (fun _ => 0))), (q_9, .inl (cA_10, 0, .inl (fun _ => 0)))] := hD
  have hP9 := hP.sub (ws' := [(h0, .inr (2, [.ref q_1, .ref q_5, .ref q_9, .int 0]))]) [0] rfl
  have hD9 := hD.sub (ws' := [(h0, .inr (2, [.ref q_1, .ref q_5, .ref q_9, .int 0]))]) [0] (by decide) rfl
  have hK9 := hK.sub (tys' := []) [] rfl
  exact W.vret hx hb hr (fun t ht hW => ⟨⟨(), rfl, trivial, q_1, q_5, q_9, by rw [ht]; exact hP9, va_K.moved hW.alike hK9, hD9⟩, hS.F ht⟩) hS.2.2 d_M_init_38
set_option maxHeartbeats 4000000 in
set_option maxRecDepth 100000 in
theorem c_Keeper_init (l : Launch) (dC : Nat → ClassId) (dI : Nat → Nat → Nat) (sz : Nat) (h0 : Nat)  : Met l y_K_init k_K_init ({ frames := 3, cells := 16, slots := 1819, locals := 52 } : Room) (va_Pc [.ref h0] (pc_E (dC, dI) [(h0, .inr (0, [.null, .null, .null, .null, .null, .null, .null, .int 0, .int 0]))] [] sz)) (va_Qv (fun (_ : Unit) => True) (fun (_ : Unit) t => ∃ (qd : Nat) (cD : ClassId) (qb : Nat) (qy : Nat) (cB : ClassId) (qf : Nat) (qz : Nat) (qc : Nat) (qm : Nat) (qw : Nat) (qp : Nat), at_E (dC, dI) (va_A [(h0, .inr (0, [.null, .null, .null, .null, .null, .null, .null, .int 0, .int 0]))] sz) [(h0, .inr (0, [.ref qd, .ref qb, .ref qf, .ref qc, .ref qm, .ref qw, .ref qp, .int 0, .int (-1)])), (qd, .inl (cD, 8, .inr (.inr (.inr (.inr (fun _ => none)))))), (qb, .inr (1, [.ref qy, .int 0])), (qy, .inl (cB, 256, .inl (fun _ => 0))), (qf, .inr (1, [.ref qz, .int 0])), (qp, .inr (4, [.int 0, .int 0, .int 0]))] [(cD, .object R_D), (cB, .byte)] t) (va_A [(h0, .inr (0, [.null, .null, .null, .null, .null, .null, .null, .int 0, .int 0]))] sz)) 16 1819 (va_A [(h0, .inr (0, [.null, .null, .null, .null, .null, .null, .null, .int 0, .int 0]))] sz) := by
  refine Met.ofW (cc := prog_1_method_1_code) (maxL := 1) (ret := none) (by decide) rfl ?_
  intro p e s m args below meth c s₁ B hml hv
  obtain ⟨rfl, hsz, hP, hK, hD0, hN⟩ := hv
  have hx := B.exec
  have hb := B.bytes
  have hr := B.returns
  have hts := atoms_spec (ws := k_K_init) B.pre
  have hw0 : ∀ w ∈ w0, w.before _ s = true := fun w h => hts w (List.mem_cons_of_mem _ h)
  have hown : s.vm.findClass R_K = some m.cls := findClass_of_methodNamed B.named
  have hlocks := B.notSynchronized
  have hin : meth.name = "<init>" := (name_of_methodNamed B.named B.method).1
  subst hsz
  have hD := hD0.self (sz := s.heap.size)
  generalize hAe : va_A [(h0, .inr (0, [.null, .null, .null, .null, .null, .null, .null, .int 0, .int 0]))] s.heap.size = A at hD ⊢
  have hA : ∀ q : Nat, s.heap.size ≤ q → A q := fun q h => by rw [← hAe]; exact Or.inr h
  have hS : va_S A s.heap s.heap [] := va_S.rf
  have hP : va_P (dC, dI) vwCl [(h0, .inr (0, [.null, .null, .null, .null, .null, .null, .null, .int 0, .int 0]))] s.heap := hP
  have hl := lv_entry ([.ref h0]) (n := 1) (Nat.le_of_ble_eq_true rfl)
  rw [lg_entry_eq]
  generalize (lg_sl ([.ref h0]) ++ List.replicate (1 - (lg_sl ([.ref h0])).length) Slot.unset).toArray = ls at hl ⊢
  have hl : lv_has ls 1 [(0, .ref h0)] := hl
  refine lv_aload_n hx hb d_K_init_0 rfl (lv_at hl 0 rfl) ?_
  refine W.objInit hx hb hown (hw0 (.methodLink R_K 1 objectInit) (List.mem_of_getElem? (i := 77) rfl)) (hw0 (.instanceMethod objectInit) (List.mem_of_getElem? (i := 54) rfl)) (hw0 (.code objectInit ⟨#[0xb1]⟩ 1 none) (List.mem_of_getElem? (i := 55) rfl)) rfl (by rw [hml]; exact hl.1) rfl d_K_init_1 (Nat.le_of_ble_eq_true rfl) (Nat.le_of_ble_eq_true rfl) ?_
  refine W.eq (g2 := F0 m 4 ls []) rfl ?_
  refine lv_aload_n hx hb d_K_init_4 rfl (lv_at hl 0 rfl) ?_
  refine lv_bipush (v := 8) hx hb d_K_init_5 (by decide +kernel) ?_
  refine va_newq (N' := 8) hx hb hown (hw0 (.classLink R_K 9 R_D) (List.mem_of_getElem? (i := 78) rfl)) (hN.2 _ (List.mem_of_getElem? (i := 0) rfl)) hK hP hD hS hA (by decide +kernel) (by decide +kernel) (by decide +kernel) (by decide +kernel) (by decide +kernel) d_K_init_7 (fun q_1 cA_2 H hK hP hD hS => ?_)
  replace hK : va_K (dC, dI) vwCl [(cA_2, .object R_D)] s := hK
  replace hP : va_P (dC, dI) vwCl [(h0, .inr (0, [.null, .null, .null, .null, .null, .null, .null, .int 0, .int 0])), (q_1, .inl (cA_2, 8, .inr (.inr (.inr (.inr (fun _ => none))))))] H := hP
  replace hD : va_D A [(h0, .inr (0, [.null, .null, .null, .null, .null, .null, .null, .int 0, .int 0])), (q_1, .inl (cA_2, 8, .inr (.inr (.inr (.inr (fun _ => none))))))] := hD
  refine W.widen (k := 1) (n := 8) (by decide +kernel) (by decide +kernel) ?_
  refine va_putF (D := (dC, dI)) (ci := 0) (v := .ref q_1) (ty := (.array (.object "TextKeeper$Document"))) (C := R_K) (T := F_K) (N := 9) hx hb hw0 in_K ft_K tk_K nk_K hown hK hP hD hS 0 rfl rfl 0 (by decide) (hw0 (.fieldLink R_K 11 "TextKeeper" "documents" "[LTextKeeper$Document;") (List.mem_of_getElem? (i := 79) rfl)) (fun _ h9 => h9) rfl hin rfl (by decide +kernel) rfl rfl (Nat.le_of_ble_eq_true rfl) d_K_init_10 (fun H locs hP hD hS => ?_)
  replace hP : va_P (dC, dI) vwCl [(h0, .inr (0, [.ref q_1, .null, .null, .null, .null, .null, .null, .int 0, .int 0])), (q_1, .inl (cA_2, 8, .inr (.inr (.inr (.inr (fun _ => none))))))] H := hP
  replace hD : va_D A [(h0, .inr (0, [.ref q_1, .null, .null, .null, .null, .null, .null, .int 0, .int 0])), (q_1, .inl (cA_2, 8, .inr (.inr (.inr (.inr (fun _ => none))))))] := hD
  refine lv_aload_n hx hb d_K_init_13 rfl (lv_at hl 0 rfl) ?_
  refine va_new (ci := 1) (fs := [.null, .int 0]) (C := R_T) (T := F_T) (N := 2) hx hb hw0 in_T ft_T tk_T hown (hw0 (.classLink R_K 15 R_T) (List.mem_of_getElem? (i := 80) rfl)) (hw0 (.instantiable R_T 2) (List.mem_of_getElem? (i := 68) rfl)) (hw0 (.initialized R_T) (List.mem_of_getElem? (i := 69) rfl)) hK hP hD hS hA rfl (fun j hj => nw_T j hj) (by decide +kernel) (by decide +kernel) d_K_init_14 (fun q_3 H hP hD hS => ?_)
  replace hP : va_P (dC, dI) vwCl [(h0, .inr (0, [.ref q_1, .null, .null, .null, .null, .null, .null, .int 0, .int 0])), (q_1, .inl (cA_2, 8, .inr (.inr (.inr (.inr (fun _ => none)))))), (q_3, .inr (1, [.null, .int 0]))] H := hP
  replace hD : va_D A [(h0, .inr (0, [.ref q_1, .null, .null, .null, .null, .null, .null, .int 0, .int 0])), (q_1, .inl (cA_2, 8, .inr (.inr (.inr (.inr (fun _ => none)))))), (q_3, .inr (1, [.null, .int 0]))] := hD
  refine W.widen (k := 2) (n := 10) (by decide +kernel) (by decide +kernel) ?_
  refine lv_dup hx hb d_K_init_17 rfl ?_
  have hPc := hP.sub (ws' := [(q_3, .inr (1, [.null, .int 0]))]) [2] rfl
  have hKc := hK.sub (tys' := []) [] rfl
  have hDc := hD.sub (ws' := [(q_3, .inr (1, [.null, .int 0]))]) [2] (by decide) rfl
  have hFc := va_free (wc := [(q_3, .inr (1, [.null, .int 0]))]) hD hS hA [2] rfl
  refine va_callv (va_runI (As := []) (rest := [.ref q_3, .ref h0]) ⟨hx, hb, hml, hown, hw0⟩ (c_Text_init l dC dI H.size q_3) (cwI 0 hw0 (gd_I 70 rfl) rfl rfl rfl (hw0 (.initialized R_T) (List.mem_of_getElem? (i := 69) rfl)) (hw0 (.methodLink R_K 17 y_T_init) (List.mem_of_getElem? (i := 81) rfl)) (hw0 (.instanceMethod y_T_init) (List.mem_of_getElem? (i := 72) rfl)) rfl (by decide +kernel) ⟨by decide +kernel, by decide +kernel⟩) (prS_E hPc hKc hDc hN) rfl rfl hl.1 rfl (lv_room (Nat.le_of_ble_eq_true rfl)) d_K_init_18 ⟨by decide +kernel, by decide +kernel⟩) hS (fun q _ h => hFc q h) hFc (fun u t H1 locs ht hvm hw hB hz1 hk1 hS => ?_)
  obtain ⟨q1_4, cB_5, hP1, hK1, hD1⟩ := hB
  rw [ht] at hP1
  have hK1 := va_K.moved hvm.symm hK1
  try dsimp only at hw
  obtain ⟨hP, hD⟩ := va_join (wr := [(h0, .inr (0, [.ref q_1, .null, .null, .null, .null, .null, .null, .int 0, .int 0])), (q_1, .inl (cA_2, 8, .inr (.inr (.inr (.inr (fun _ => none))))))]) (w1 := [(q_3, .inr (1, [.ref q1_4, .int 0])), (q1_4, .inl (cB_5, 256, .inl (fun _ => 0)))]) hP hD [2] [0, 1] rfl rfl (by decide) (by decide) hk1 hFc hP1 hD1
  have hK := hK.app (hK1.sub (tys' := [(cB_5, .byte)]) [0] rfl)
  generalize H1 = H at hP hS ⊢
  replace hP : va_P (dC, dI) vwCl [(h0, .inr (0, [.ref q_1, .null, .null, .null, .null, .null, .null, .int 0, .int 0])), (q_1, .inl (cA_2, 8, .inr (.inr (.inr (.inr (fun _ => none)))))), (q_3, .inr (1, [.ref q1_4, .int 0])), (q1_4, .inl (cB_5, 256, .inl (fun _ => 0)))] H := hP
  replace hD : va_D A [(h0, .inr (0, [.ref q_1, .null, .null, .null, .null, .null, .null, .int 0, .int 0])), (q_1, .inl (cA_2, 8, .inr (.inr (.inr (.inr (fun _ => none)))))), (q_3, .inr (1, [.ref q1_4, .int 0])), (q1_4, .inl (cB_5, 256, .inl (fun _ => 0)))] := hD
  replace hK : va_K (dC, dI) vwCl [(cA_2, .object R_D), (cB_5, .byte)] s := hK
  refine W.widen (k := 3) (n := 266) (by decide +kernel) (by decide +kernel) ?_
  refine va_putF (D := (dC, dI)) (ci := 0) (v := .ref q_3) (ty := (.object "TextKeeper$Text")) (C := R_K) (T := F_K) (N := 9) hx hb hw0 in_K ft_K tk_K nk_K hown hK hP hD hS 0 rfl rfl 1 (by decide) (hw0 (.fieldLink R_K 18 "TextKeeper" "buffer" "LTextKeeper$Text;") (List.mem_of_getElem? (i := 82) rfl)) (fun _ h9 => h9) rfl hin rfl (by decide +kernel) rfl rfl (Nat.le_of_ble_eq_true rfl) d_K_init_21 (fun H locs hP hD hS => ?_)
  replace hP : va_P (dC, dI) vwCl [(h0, .inr (0, [.ref q_1, .ref q_3, .null, .null, .null, .null, .null, .int 0, .int 0])), (q_1, .inl (cA_2, 8, .inr (.inr (.inr (.inr (fun _ => none)))))), (q_3, .inr (1, [.ref q1_4, .int 0])), (q1_4, .inl (cB_5, 256, .inl (fun _ => 0)))] H := hP
  replace hD : va_D A [(h0, .inr (0, [.ref q_1, .ref q_3, .null, .null, .null, .null, .null, .int 0, .int 0])), (q_1, .inl (cA_2, 8, .inr (.inr (.inr (.inr (fun _ => none)))))), (q_3, .inr (1, [.ref q1_4, .int 0])), (q1_4, .inl (cB_5, 256, .inl (fun _ => 0)))] := hD
  refine lv_aload_n hx hb d_K_init_24 rfl (lv_at hl 0 rfl) ?_
  refine va_new (ci := 1) (fs := [.null, .int 0]) (C := R_T) (T := F_T) (N := 2) hx hb hw0 in_T ft_T tk_T hown (hw0 (.classLink R_K 15 R_T) (List.mem_of_getElem? (i := 80) rfl)) (hw0 (.instantiable R_T 2) (List.mem_of_getElem? (i := 68) rfl)) (hw0 (.initialized R_T) (List.mem_of_getElem? (i := 69) rfl)) hK hP hD hS hA rfl (fun j hj => nw_T j hj) (by decide +kernel) (by decide +kernel) d_K_init_25 (fun q_7 H hP hD hS => ?_)
  replace hP : va_P (dC, dI) vwCl [(h0, .inr (0, [.ref q_1, .ref q_3, .null, .null, .null, .null, .null, .int 0, .int 0])), (q_1, .inl (cA_2, 8, .inr (.inr (.inr (.inr (fun _ => none)))))), (q_3, .inr (1, [.ref q1_4, .int 0])), (q1_4, .inl (cB_5, 256, .inl (fun _ => 0))), (q_7, .inr (1, [.null, .int 0]))] H := hP
  replace hD : va_D A [(h0, .inr (0, [.ref q_1, .ref q_3, .null, .null, .null, .null, .null, .int 0, .int 0])), (q_1, .inl (cA_2, 8, .inr (.inr (.inr (.inr (fun _ => none)))))), (q_3, .inr (1, [.ref q1_4, .int 0])), (q1_4, .inl (cB_5, 256, .inl (fun _ => 0))), (q_7, .inr (1, [.null, .int 0]))] := hD
  refine W.widen (k := 4) (n := 268) (by decide +kernel) (by decide +kernel) ?_
  refine lv_dup hx hb d_K_init_28 rfl ?_
  have hPc := hP.sub (ws' := [(q_7, .inr (1, [.null, .int 0]))]) [4] rfl
  have hKc := hK.sub (tys' := []) [] rfl
  have hDc := hD.sub (ws' := [(q_7, .inr (1, [.null, .int 0]))]) [4] (by decide) rfl
  have hFc := va_free (wc := [(q_7, .inr (1, [.null, .int 0]))]) hD hS hA [4] rfl
  refine va_callv (va_runI (As := []) (rest := [.ref q_7, .ref h0]) ⟨hx, hb, hml, hown, hw0⟩ (c_Text_init l dC dI H.size q_7) (cwI 0 hw0 (gd_I 70 rfl) rfl rfl rfl (hw0 (.initialized R_T) (List.mem_of_getElem? (i := 69) rfl)) (hw0 (.methodLink R_K 17 y_T_init) (List.mem_of_getElem? (i := 81) rfl)) (hw0 (.instanceMethod y_T_init) (List.mem_of_getElem? (i := 72) rfl)) rfl (by decide +kernel) ⟨by decide +kernel, by decide +kernel⟩) (prS_E hPc hKc hDc hN) rfl rfl hl.1 rfl (lv_room (Nat.le_of_ble_eq_true rfl)) d_K_init_29 ⟨by decide +kernel, by decide +kernel⟩) hS (fun q _ h => hFc q h) hFc (fun u t H1 locs ht hvm hw hB hz1 hk1 hS => ?_)
  obtain ⟨q1_8, cB_9, hP1, hK1, hD1⟩ := hB
  rw [ht] at hP1
  have hK1 := va_K.moved hvm.symm hK1
  try dsimp only at hw
  obtain ⟨hP, hD⟩ := va_join (wr := [(h0, .inr (0, [.ref q_1, .ref q_3, .null, .null, .null, .null, .null, .int 0, .int 0])), (q_1, .inl (cA_2, 8, .inr (.inr (.inr (.inr (fun _ => none)))))), (q_3, .inr (1, [.ref q1_4, .int 0])), (q1_4, .inl (cB_5, 256, .inl (fun _ => 0)))]) (w1 := [(q_7, .inr (1, [.ref q1_8, .int 0])), (q1_8, .inl (cB_9, 256, .inl (fun _ => 0)))]) hP hD [4] [0, 1, 2, 3] rfl rfl (by decide) (by decide) hk1 hFc hP1 hD1
  have hK := hK.app (hK1.sub (tys' := [(cB_9, .byte)]) [0] rfl)
  generalize H1 = H at hP hS ⊢
  replace hP : va_P (dC, dI) vwCl [(h0, .inr (0, [.ref q_1, .ref q_3, .null, .null, .null, .null, .null, .int 0, .int 0])), (q_1, .inl (cA_2, 8, .inr (.inr (.inr (.inr (fun _ => none)))))), (q_3, .inr (1, [.ref q1_4, .int 0])), (q1_4, .inl (cB_5, 256, .inl (fun _ => 0))), (q_7, .inr (1, [.ref q1_8, .int 0])), (q1_8, .inl (cB_9, 256, .inl (fun _ => 0)))] H := hP
  replace hD : va_D A [(h0, .inr (0, [.ref q_1, .ref q_3, .null, .null, .null, .null, .null, .int 0, .int 0])), (q_1, .inl (cA_2, 8, .inr (.inr (.inr (.inr (fun _ => none)))))), (q_3, .inr (1, [.ref q1_4, .int 0])), (q1_4, .inl (cB_5, 256, .inl (fun _ => 0))), (q_7, .inr (1, [.ref q1_8, .int 0])), (q1_8, .inl (cB_9, 256, .inl (fun _ => 0)))] := hD
  replace hK : va_K (dC, dI) vwCl [(cA_2, .object R_D), (cB_5, .byte), (cB_9, .byte)] s := hK
  refine W.widen (k := 5) (n := 524) (by decide +kernel) (by decide +kernel) ?_
  refine va_putF (D := (dC, dI)) (ci := 0) (v := .ref q_7) (ty := (.object "TextKeeper$Text")) (C := R_K) (T := F_K) (N := 9) hx hb hw0 in_K ft_K tk_K nk_K hown hK hP hD hS 0 rfl rfl 2 (by decide) (hw0 (.fieldLink R_K 22 "TextKeeper" "fetched" "LTextKeeper$Text;") (List.mem_of_getElem? (i := 83) rfl)) (fun _ h9 => h9) rfl hin rfl (by decide +kernel) rfl rfl (Nat.le_of_ble_eq_true rfl) d_K_init_32 (fun H locs hP hD hS => ?_)
  replace hP : va_P (dC, dI) vwCl [(h0, .inr (0, [.ref q_1, .ref q_3, .ref q_7, .null, .null, .null, .null, .int 0, .int 0])), (q_1, .inl (cA_2, 8, .inr (.inr (.inr (.inr (fun _ => none)))))), (q_3, .inr (1, [.ref q1_4, .int 0])), (q1_4, .inl (cB_5, 256, .inl (fun _ => 0))), (q_7, .inr (1, [.ref q1_8, .int 0])), (q1_8, .inl (cB_9, 256, .inl (fun _ => 0)))] H := hP
  replace hD : va_D A [(h0, .inr (0, [.ref q_1, .ref q_3, .ref q_7, .null, .null, .null, .null, .int 0, .int 0])), (q_1, .inl (cA_2, 8, .inr (.inr (.inr (.inr (fun _ => none)))))), (q_3, .inr (1, [.ref q1_4, .int 0])), (q1_4, .inl (cB_5, 256, .inl (fun _ => 0))), (q_7, .inr (1, [.ref q1_8, .int 0])), (q1_8, .inl (cB_9, 256, .inl (fun _ => 0)))] := hD
  refine lv_aload_n hx hb d_K_init_35 rfl (lv_at hl 0 rfl) ?_
  refine va_new (ci := 1) (fs := [.null, .int 0]) (C := R_T) (T := F_T) (N := 2) hx hb hw0 in_T ft_T tk_T hown (hw0 (.classLink R_K 15 R_T) (List.mem_of_getElem? (i := 80) rfl)) (hw0 (.instantiable R_T 2) (List.mem_of_getElem? (i := 68) rfl)) (hw0 (.initialized R_T) (List.mem_of_getElem? (i := 69) rfl)) hK hP hD hS hA rfl (fun j hj => nw_T j hj) (by decide +kernel) (by decide +kernel) d_K_init_36 (fun q_11 H hP hD hS => ?_)
  replace hP : va_P (dC, dI) vwCl [(h0, .inr (0, [.ref q_1, .ref q_3, .ref q_7, .null, .null, .null, .null, .int 0, .int 0])), (q_1, .inl (cA_2, 8, .inr (.inr (.inr (.inr (fun _ => none)))))), (q_3, .inr (1, [.ref q1_4, .int 0])), (q1_4, .inl (cB_5, 256, .inl (fun _ => 0))), (q_7, .inr (1, [.ref q1_8, .int 0])), (q1_8, .inl (cB_9, 256, .inl (fun _ => 0))), (q_11, .inr (1, [.null, .int 0]))] H := hP
  replace hD : va_D A [(h0, .inr (0, [.ref q_1, .ref q_3, .ref q_7, .null, .null, .null, .null, .int 0, .int 0])), (q_1, .inl (cA_2, 8, .inr (.inr (.inr (.inr (fun _ => none)))))), (q_3, .inr (1, [.ref q1_4, .int 0])), (q1_4, .inl (cB_5, 256, .inl (fun _ => 0))), (q_7, .inr (1, [.ref q1_8, .int 0])), (q1_8, .inl (cB_9, 256, .inl (fun _ => 0))), (q_11, .inr (1, [.null, .int 0]))] := hD
  refine W.widen (k := 6) (n := 526) (by decide +kernel) (by decide +kernel) ?_
  refine lv_dup hx hb d_K_init_39 rfl ?_
  have hPc := hP.sub (ws' := [(q_11, .inr (1, [.null, .int 0]))]) [6] rfl
  have hKc := hK.sub (tys' := []) [] rfl
  have hDc := hD.sub (ws' := [(q_11, .inr (1, [.null, .int 0]))]) [6] (by decide) rfl
  have hFc := va_free (wc := [(q_11, .inr (1, [.null, .int 0]))]) hD hS hA [6] rfl
  refine va_callv (va_runI (As := []) (rest := [.ref q_11, .ref h0]) ⟨hx, hb, hml, hown, hw0⟩ (c_Text_init l dC dI H.size q_11) (cwI 0 hw0 (gd_I 70 rfl) rfl rfl rfl (hw0 (.initialized R_T) (List.mem_of_getElem? (i := 69) rfl)) (hw0 (.methodLink R_K 17 y_T_init) (List.mem_of_getElem? (i := 81) rfl)) (hw0 (.instanceMethod y_T_init) (List.mem_of_getElem? (i := 72) rfl)) rfl (by decide +kernel) ⟨by decide +kernel, by decide +kernel⟩) (prS_E hPc hKc hDc hN) rfl rfl hl.1 rfl (lv_room (Nat.le_of_ble_eq_true rfl)) d_K_init_40 ⟨by decide +kernel, by decide +kernel⟩) hS (fun q _ h => hFc q h) hFc (fun u t H1 locs ht hvm hw hB hz1 hk1 hS => ?_)
  obtain ⟨q1_12, cB_13, hP1, hK1, hD1⟩ := hB
  rw [ht] at hP1
  have hK1 := va_K.moved hvm.symm hK1
  try dsimp only at hw
  obtain ⟨hP, hD⟩ := va_join (wr := [(h0, .inr (0, [.ref q_1, .ref q_3, .ref q_7, .null, .null, .null, .null, .int 0, .int 0])), (q_1, .inl (cA_2, 8, .inr (.inr (.inr (.inr (fun _ => none)))))), (q_3, .inr (1, [.ref q1_4, .int 0])), (q1_4, .inl (cB_5, 256, .inl (fun _ => 0))), (q_7, .inr (1, [.ref q1_8, .int 0])), (q1_8, .inl (cB_9, 256, .inl (fun _ => 0)))]) (w1 := [(q_11, .inr (1, [.ref q1_12, .int 0])), (q1_12, .inl (cB_13, 256, .inl (fun _ => 0)))]) hP hD [6] [0, 1, 2, 3, 4, 5] rfl rfl (by decide) (by decide) hk1 hFc hP1 hD1
  have hK := hK.app (hK1.sub (tys' := [(cB_13, .byte)]) [0] rfl)
  generalize H1 = H at hP hS ⊢
  replace hP : va_P (dC, dI) vwCl [(h0, .inr (0, [.ref q_1, .ref q_3, .ref q_7, .null, .null, .null, .null, .int 0, .int 0])), (q_1, .inl (cA_2, 8, .inr (.inr (.inr (.inr (fun _ => none)))))), (q_3, .inr (1, [.ref q1_4, .int 0])), (q1_4, .inl (cB_5, 256, .inl (fun _ => 0))), (q_7, .inr (1, [.ref q1_8, .int 0])), (q1_8, .inl (cB_9, 256, .inl (fun _ => 0))), (q_11, .inr (1, [.ref q1_12, .int 0])), (q1_12, .inl (cB_13, 256, .inl (fun _ => 0)))] H := hP
  replace hD : va_D A [(h0, .inr (0, [.ref q_1, .ref q_3, .ref q_7, .null, .null, .null, .null, .int 0, .int 0])), (q_1, .inl (cA_2, 8, .inr (.inr (.inr (.inr (fun _ => none)))))), (q_3, .inr (1, [.ref q1_4, .int 0])), (q1_4, .inl (cB_5, 256, .inl (fun _ => 0))), (q_7, .inr (1, [.ref q1_8, .int 0])), (q1_8, .inl (cB_9, 256, .inl (fun _ => 0))), (q_11, .inr (1, [.ref q1_12, .int 0])), (q1_12, .inl (cB_13, 256, .inl (fun _ => 0)))] := hD
  replace hK : va_K (dC, dI) vwCl [(cA_2, .object R_D), (cB_5, .byte), (cB_9, .byte), (cB_13, .byte)] s := hK
  refine W.widen (k := 7) (n := 782) (by decide +kernel) (by decide +kernel) ?_
  refine va_putF (D := (dC, dI)) (ci := 0) (v := .ref q_11) (ty := (.object "TextKeeper$Text")) (C := R_K) (T := F_K) (N := 9) hx hb hw0 in_K ft_K tk_K nk_K hown hK hP hD hS 0 rfl rfl 3 (by decide) (hw0 (.fieldLink R_K 25 "TextKeeper" "compared" "LTextKeeper$Text;") (List.mem_of_getElem? (i := 84) rfl)) (fun _ h9 => h9) rfl hin rfl (by decide +kernel) rfl rfl (Nat.le_of_ble_eq_true rfl) d_K_init_43 (fun H locs hP hD hS => ?_)
  replace hP : va_P (dC, dI) vwCl [(h0, .inr (0, [.ref q_1, .ref q_3, .ref q_7, .ref q_11, .null, .null, .null, .int 0, .int 0])), (q_1, .inl (cA_2, 8, .inr (.inr (.inr (.inr (fun _ => none)))))), (q_3, .inr (1, [.ref q1_4, .int 0])), (q1_4, .inl (cB_5, 256, .inl (fun _ => 0))), (q_7, .inr (1, [.ref q1_8, .int 0])), (q1_8, .inl (cB_9, 256, .inl (fun _ => 0))), (q_11, .inr (1, [.ref q1_12, .int 0])), (q1_12, .inl (cB_13, 256, .inl (fun _ => 0)))] H := hP
  replace hD : va_D A [(h0, .inr (0, [.ref q_1, .ref q_3, .ref q_7, .ref q_11, .null, .null, .null, .int 0, .int 0])), (q_1, .inl (cA_2, 8, .inr (.inr (.inr (.inr (fun _ => none)))))), (q_3, .inr (1, [.ref q1_4, .int 0])), (q1_4, .inl (cB_5, 256, .inl (fun _ => 0))), (q_7, .inr (1, [.ref q1_8, .int 0])), (q1_8, .inl (cB_9, 256, .inl (fun _ => 0))), (q_11, .inr (1, [.ref q1_12, .int 0])), (q1_12, .inl (cB_13, 256, .inl (fun _ => 0)))] := hD
  refine lv_aload_n hx hb d_K_init_46 rfl (lv_at hl 0 rfl) ?_
  refine va_new (ci := 2) (fs := [.null, .null, .null, .int 0]) (C := R_M) (T := F_M) (N := 4) hx hb hw0 in_M ft_M tk_M hown (hw0 (.classLink R_K 28 R_M) (List.mem_of_getElem? (i := 85) rfl)) (hw0 (.instantiable R_M 4) (List.mem_of_getElem? (i := 86) rfl)) (hw0 (.initialized R_M) (List.mem_of_getElem? (i := 87) rfl)) hK hP hD hS hA rfl (fun j hj => nw_M j hj) (by decide +kernel) (by decide +kernel) d_K_init_47 (fun q_15 H hP hD hS => ?_)
  replace hP : va_P (dC, dI) vwCl [(h0, .inr (0, [.ref q_1, .ref q_3, .ref q_7, .ref q_11, .null, .null, .null, .int 0, .int 0])), (q_1, .inl (cA_2, 8, .inr (.inr (.inr (.inr (fun _ => none)))))), (q_3, .inr (1, [.ref q1_4, .int 0])), (q1_4, .inl (cB_5, 256, .inl (fun _ => 0))), (q_7, .inr (1, [.ref q1_8, .int 0])), (q1_8, .inl (cB_9, 256, .inl (fun _ => 0))), (q_11, .inr (1, [.ref q1_12, .int 0])), (q1_12, .inl (cB_13, 256, .inl (fun _ => 0))), (q_15, .inr (2, [.null, .null, .null, .int 0]))] H := hP
  replace hD : va_D A [(h0, .inr (0, [.ref q_1, .ref q_3, .ref q_7, .ref q_11, .null, .null, .null, .int 0, .int 0])), (q_1, .inl (cA_2, 8, .inr (.inr (.inr (.inr (fun _ => none)))))), (q_3, .inr (1, [.ref q1_4, .int 0])), (q1_4, .inl (cB_5, 256, .inl (fun _ => 0))), (q_7, .inr (1, [.ref q1_8, .int 0])), (q1_8, .inl (cB_9, 256, .inl (fun _ => 0))), (q_11, .inr (1, [.ref q1_12, .int 0])), (q1_12, .inl (cB_13, 256, .inl (fun _ => 0))), (q_15, .inr (2, [.null, .null, .null, .int 0]))] := hD
  refine W.widen (k := 8) (n := 786) (by decide +kernel) (by decide +kernel) ?_
  refine lv_dup hx hb d_K_init_50 rfl ?_
  have hPc := hP.sub (ws' := [(q_15, .inr (2, [.null, .null, .null, .int 0]))]) [8] rfl
  have hKc := hK.sub (tys' := []) [] rfl
  have hDc := hD.sub (ws' := [(q_15, .inr (2, [.null, .null, .null, .int 0]))]) [8] (by decide) rfl
  have hFc := va_free (wc := [(q_15, .inr (2, [.null, .null, .null, .int 0]))]) hD hS hA [8] rfl
  refine va_callv (va_runI (As := []) (rest := [.ref q_15, .ref h0]) ⟨hx, hb, hml, hown, hw0⟩ (c_Maker_init l dC dI H.size q_15) (cwI 0 hw0 (gd_I 88 rfl) rfl rfl rfl (hw0 (.initialized R_M) (List.mem_of_getElem? (i := 87) rfl)) (hw0 (.methodLink R_K 30 y_M_init) (List.mem_of_getElem? (i := 89) rfl)) (hw0 (.instanceMethod y_M_init) (List.mem_of_getElem? (i := 90) rfl)) rfl (by decide +kernel) ⟨by decide +kernel, by decide +kernel⟩) (prS_E hPc hKc hDc hN) rfl rfl hl.1 rfl (lv_room (Nat.le_of_ble_eq_true rfl)) d_K_init_51 ⟨by decide +kernel, by decide +kernel⟩) hS (fun q _ h => hFc q h) hFc (fun u t H1 locs ht hvm hw hB hz1 hk1 hS => ?_)
  obtain ⟨q1_16, q2_17, q3_18, hP1, hK1, hD1⟩ := hB
  rw [ht] at hP1
  have hK1 := va_K.moved hvm.symm hK1
  try dsimp only at hw
  obtain ⟨hP, hD⟩ := va_join (wr := [(h0, .inr (0, [.ref q_1, .ref q_3, .ref q_7, .ref q_11, .null, .null, .null, .int 0, .int 0])), (q_1, .inl (cA_2, 8, .inr (.inr (.inr (.inr (fun _ => none)))))), (q_3, .inr (1, [.ref q1_4, .int 0])), (q1_4, .inl (cB_5, 256, .inl (fun _ => 0))), (q_7, .inr (1, [.ref q1_8, .int 0])), (q1_8, .inl (cB_9, 256, .inl (fun _ => 0))), (q_11, .inr (1, [.ref q1_12, .int 0])), (q1_12, .inl (cB_13, 256, .inl (fun _ => 0)))]) (w1 := [(q_15, .inr (2, [.ref q1_16, .ref q2_17, .ref q3_18, .int 0]))]) hP hD [8] [0, 1, 2, 3, 4, 5, 6, 7] rfl rfl (by decide) (by decide) hk1 hFc hP1 hD1
  generalize H1 = H at hP hS ⊢
  replace hP : va_P (dC, dI) vwCl [(h0, .inr (0, [.ref q_1, .ref q_3, .ref q_7, .ref q_11, .null, .null, .null, .int 0, .int 0])), (q_1, .inl (cA_2, 8, .inr (.inr (.inr (.inr (fun _ => none)))))), (q_3, .inr (1, [.ref q1_4, .int 0])), (q1_4, .inl (cB_5, 256, .inl (fun _ => 0))), (q_7, .inr (1, [.ref q1_8, .int 0])), (q1_8, .inl (cB_9, 256, .inl (fun _ => 0))), (q_11, .inr (1, [.ref q1_12, .int 0])), (q1_12, .inl (cB_13, 256, .inl (fun _ => 0))), (q_15, .inr (2, [.ref q1_16, .ref q2_17, .ref q3_18, .int 0]))] H := hP
  replace hD : va_D A [(h0, .inr (0, [.ref q_1, .ref q_3, .ref q_7, .ref q_11, .null, .null, .null, .int 0, .int 0])), (q_1, .inl (cA_2, 8, .inr (.inr (.inr (.inr (fun _ => none)))))), (q_3, .inr (1, [.ref q1_4, .int 0])), (q1_4, .inl (cB_5, 256, .inl (fun _ => 0))), (q_7, .inr (1, [.ref q1_8, .int 0])), (q1_8, .inl (cB_9, 256, .inl (fun _ => 0))), (q_11, .inr (1, [.ref q1_12, .int 0])), (q1_12, .inl (cB_13, 256, .inl (fun _ => 0))), (q_15, .inr (2, [.ref q1_16, .ref q2_17, .ref q3_18, .int 0]))] := hD
  replace hK : va_K (dC, dI) vwCl [(cA_2, .object R_D), (cB_5, .byte), (cB_9, .byte), (cB_13, .byte)] s := hK
  refine W.widen (k := 13) (n := 1302) (by decide +kernel) (by decide +kernel) ?_
  refine va_putF (D := (dC, dI)) (ci := 0) (v := .ref q_15) (ty := (.object "TextKeeper$Maker")) (C := R_K) (T := F_K) (N := 9) hx hb hw0 in_K ft_K tk_K nk_K hown hK hP hD hS 0 rfl rfl 4 (by decide) (hw0 (.fieldLink R_K 31 "TextKeeper" "maker" "LTextKeeper$Maker;") (List.mem_of_getElem? (i := 91) rfl)) (fun _ h9 => h9) rfl hin rfl (by decide +kernel) rfl rfl (Nat.le_of_ble_eq_true rfl) d_K_init_54 (fun H locs hP hD hS => ?_)
  replace hP : va_P (dC, dI) vwCl [(h0, .inr (0, [.ref q_1, .ref q_3, .ref q_7, .ref q_11, .ref q_15, .null, .null, .int 0, .int 0])), (q_1, .inl (cA_2, 8, .inr (.inr (.inr (.inr (fun _ => none)))))), (q_3, .inr (1, [.ref q1_4, .int 0])), (q1_4, .inl (cB_5, 256, .inl (fun _ => 0))), (q_7, .inr (1, [.ref q1_8, .int 0])), (q1_8, .inl (cB_9, 256, .inl (fun _ => 0))), (q_11, .inr (1, [.ref q1_12, .int 0])), (q1_12, .inl (cB_13, 256, .inl (fun _ => 0))), (q_15, .inr (2, [.ref q1_16, .ref q2_17, .ref q3_18, .int 0]))] H := hP
  replace hD : va_D A [(h0, .inr (0, [.ref q_1, .ref q_3, .ref q_7, .ref q_11, .ref q_15, .null, .null, .int 0, .int 0])), (q_1, .inl (cA_2, 8, .inr (.inr (.inr (.inr (fun _ => none)))))), (q_3, .inr (1, [.ref q1_4, .int 0])), (q1_4, .inl (cB_5, 256, .inl (fun _ => 0))), (q_7, .inr (1, [.ref q1_8, .int 0])), (q1_8, .inl (cB_9, 256, .inl (fun _ => 0))), (q_11, .inr (1, [.ref q1_12, .int 0])), (q1_12, .inl (cB_13, 256, .inl (fun _ => 0))), (q_15, .inr (2, [.ref q1_16, .ref q2_17, .ref q3_18, .int 0]))] := hD
  refine lv_aload_n hx hb d_K_init_57 rfl (lv_at hl 0 rfl) ?_
  refine va_new (ci := 3) (fs := [.null, .int 0]) (C := R_W) (T := F_W) (N := 2) hx hb hw0 in_W ft_W tk_W hown (hw0 (.classLink R_K 35 R_W) (List.mem_of_getElem? (i := 92) rfl)) (hw0 (.instantiable R_W 2) (List.mem_of_getElem? (i := 93) rfl)) (hw0 (.initialized R_W) (List.mem_of_getElem? (i := 94) rfl)) hK hP hD hS hA rfl (fun j hj => nw_W j hj) (by decide +kernel) (by decide +kernel) d_K_init_58 (fun q_20 H hP hD hS => ?_)
  replace hP : va_P (dC, dI) vwCl [(h0, .inr (0, [.ref q_1, .ref q_3, .ref q_7, .ref q_11, .ref q_15, .null, .null, .int 0, .int 0])), (q_1, .inl (cA_2, 8, .inr (.inr (.inr (.inr (fun _ => none)))))), (q_3, .inr (1, [.ref q1_4, .int 0])), (q1_4, .inl (cB_5, 256, .inl (fun _ => 0))), (q_7, .inr (1, [.ref q1_8, .int 0])), (q1_8, .inl (cB_9, 256, .inl (fun _ => 0))), (q_11, .inr (1, [.ref q1_12, .int 0])), (q1_12, .inl (cB_13, 256, .inl (fun _ => 0))), (q_15, .inr (2, [.ref q1_16, .ref q2_17, .ref q3_18, .int 0])), (q_20, .inr (3, [.null, .int 0]))] H := hP
  replace hD : va_D A [(h0, .inr (0, [.ref q_1, .ref q_3, .ref q_7, .ref q_11, .ref q_15, .null, .null, .int 0, .int 0])), (q_1, .inl (cA_2, 8, .inr (.inr (.inr (.inr (fun _ => none)))))), (q_3, .inr (1, [.ref q1_4, .int 0])), (q1_4, .inl (cB_5, 256, .inl (fun _ => 0))), (q_7, .inr (1, [.ref q1_8, .int 0])), (q1_8, .inl (cB_9, 256, .inl (fun _ => 0))), (q_11, .inr (1, [.ref q1_12, .int 0])), (q1_12, .inl (cB_13, 256, .inl (fun _ => 0))), (q_15, .inr (2, [.ref q1_16, .ref q2_17, .ref q3_18, .int 0])), (q_20, .inr (3, [.null, .int 0]))] := hD
  refine W.widen (k := 14) (n := 1304) (by decide +kernel) (by decide +kernel) ?_
  refine lv_dup hx hb d_K_init_61 rfl ?_
  have hPc := hP.sub (ws' := [(q_20, .inr (3, [.null, .int 0]))]) [9] rfl
  have hKc := hK.sub (tys' := []) [] rfl
  have hDc := hD.sub (ws' := [(q_20, .inr (3, [.null, .int 0]))]) [9] (by decide) rfl
  have hFc := va_free (wc := [(q_20, .inr (3, [.null, .int 0]))]) hD hS hA [9] rfl
  refine va_callv (va_runI (As := []) (rest := [.ref q_20, .ref h0]) ⟨hx, hb, hml, hown, hw0⟩ (c_PieceWriter_init l dC dI H.size q_20) (cwI 0 hw0 (gd_I 95 rfl) rfl rfl rfl (hw0 (.initialized R_W) (List.mem_of_getElem? (i := 94) rfl)) (hw0 (.methodLink R_K 37 y_W_init) (List.mem_of_getElem? (i := 96) rfl)) (hw0 (.instanceMethod y_W_init) (List.mem_of_getElem? (i := 97) rfl)) rfl (by decide +kernel) ⟨by decide +kernel, by decide +kernel⟩) (prS_E hPc hKc hDc hN) rfl rfl hl.1 rfl (lv_room (Nat.le_of_ble_eq_true rfl)) d_K_init_62 ⟨by decide +kernel, by decide +kernel⟩) hS (fun q _ h => hFc q h) hFc (fun u t H1 locs ht hvm hw hB hz1 hk1 hS => ?_)
  obtain ⟨q1_21, hP1, hK1, hD1⟩ := hB
  rw [ht] at hP1
  have hK1 := va_K.moved hvm.symm hK1
  try dsimp only at hw
  obtain ⟨hP, hD⟩ := va_join (wr := [(h0, .inr (0, [.ref q_1, .ref q_3, .ref q_7, .ref q_11, .ref q_15, .null, .null, .int 0, .int 0])), (q_1, .inl (cA_2, 8, .inr (.inr (.inr (.inr (fun _ => none)))))), (q_3, .inr (1, [.ref q1_4, .int 0])), (q1_4, .inl (cB_5, 256, .inl (fun _ => 0))), (q_7, .inr (1, [.ref q1_8, .int 0])), (q1_8, .inl (cB_9, 256, .inl (fun _ => 0))), (q_11, .inr (1, [.ref q1_12, .int 0])), (q1_12, .inl (cB_13, 256, .inl (fun _ => 0))), (q_15, .inr (2, [.ref q1_16, .ref q2_17, .ref q3_18, .int 0]))]) (w1 := [(q_20, .inr (3, [.ref q1_21, .int 0]))]) hP hD [9] [0, 1, 2, 3, 4, 5, 6, 7, 8] rfl rfl (by decide) (by decide) hk1 hFc hP1 hD1
  generalize H1 = H at hP hS ⊢
  replace hP : va_P (dC, dI) vwCl [(h0, .inr (0, [.ref q_1, .ref q_3, .ref q_7, .ref q_11, .ref q_15, .null, .null, .int 0, .int 0])), (q_1, .inl (cA_2, 8, .inr (.inr (.inr (.inr (fun _ => none)))))), (q_3, .inr (1, [.ref q1_4, .int 0])), (q1_4, .inl (cB_5, 256, .inl (fun _ => 0))), (q_7, .inr (1, [.ref q1_8, .int 0])), (q1_8, .inl (cB_9, 256, .inl (fun _ => 0))), (q_11, .inr (1, [.ref q1_12, .int 0])), (q1_12, .inl (cB_13, 256, .inl (fun _ => 0))), (q_15, .inr (2, [.ref q1_16, .ref q2_17, .ref q3_18, .int 0])), (q_20, .inr (3, [.ref q1_21, .int 0]))] H := hP
  replace hD : va_D A [(h0, .inr (0, [.ref q_1, .ref q_3, .ref q_7, .ref q_11, .ref q_15, .null, .null, .int 0, .int 0])), (q_1, .inl (cA_2, 8, .inr (.inr (.inr (.inr (fun _ => none)))))), (q_3, .inr (1, [.ref q1_4, .int 0])), (q1_4, .inl (cB_5, 256, .inl (fun _ => 0))), (q_7, .inr (1, [.ref q1_8, .int 0])), (q1_8, .inl (cB_9, 256, .inl (fun _ => 0))), (q_11, .inr (1, [.ref q1_12, .int 0])), (q1_12, .inl (cB_13, 256, .inl (fun _ => 0))), (q_15, .inr (2, [.ref q1_16, .ref q2_17, .ref q3_18, .int 0])), (q_20, .inr (3, [.ref q1_21, .int 0]))] := hD
  replace hK : va_K (dC, dI) vwCl [(cA_2, .object R_D), (cB_5, .byte), (cB_9, .byte), (cB_13, .byte)] s := hK
  refine W.widen (k := 15) (n := 1816) (by decide +kernel) (by decide +kernel) ?_
  refine va_putF (D := (dC, dI)) (ci := 0) (v := .ref q_20) (ty := (.object "TextKeeper$PieceWriter")) (C := R_K) (T := F_K) (N := 9) hx hb hw0 in_K ft_K tk_K nk_K hown hK hP hD hS 0 rfl rfl 5 (by decide) (hw0 (.fieldLink R_K 38 "TextKeeper" "writer" "LTextKeeper$PieceWriter;") (List.mem_of_getElem? (i := 98) rfl)) (fun _ h9 => h9) rfl hin rfl (by decide +kernel) rfl rfl (Nat.le_of_ble_eq_true rfl) d_K_init_65 (fun H locs hP hD hS => ?_)
  replace hP : va_P (dC, dI) vwCl [(h0, .inr (0, [.ref q_1, .ref q_3, .ref q_7, .ref q_11, .ref q_15, .ref q_20, .null, .int 0, .int 0])), (q_1, .inl (cA_2, 8, .inr (.inr (.inr (.inr (fun _ => none)))))), (q_3, .inr (1, [.ref q1_4, .int 0])), (q1_4, .inl (cB_5, 256, .inl (fun _ => 0))), (q_7, .inr (1, [.ref q1_8, .int 0])), (q1_8, .inl (cB_9, 256, .inl (fun _ => 0))), (q_11, .inr (1, [.ref q1_12, .int 0])), (q1_12, .inl (cB_13, 256, .inl (fun _ => 0))), (q_15, .inr (2, [.ref q1_16, .ref q2_17, .ref q3_18, .int 0])), (q_20, .inr (3, [.ref q1_21, .int 0]))] H := hP
  replace hD : va_D A [(h0, .inr (0, [.ref q_1, .ref q_3, .ref q_7, .ref q_11, .ref q_15, .ref q_20, .null, .int 0, .int 0])), (q_1, .inl (cA_2, 8, .inr (.inr (.inr (.inr (fun _ => none)))))), (q_3, .inr (1, [.ref q1_4, .int 0])), (q1_4, .inl (cB_5, 256, .inl (fun _ => 0))), (q_7, .inr (1, [.ref q1_8, .int 0])), (q1_8, .inl (cB_9, 256, .inl (fun _ => 0))), (q_11, .inr (1, [.ref q1_12, .int 0])), (q1_12, .inl (cB_13, 256, .inl (fun _ => 0))), (q_15, .inr (2, [.ref q1_16, .ref q2_17, .ref q3_18, .int 0])), (q_20, .inr (3, [.ref q1_21, .int 0]))] := hD
  refine lv_aload_n hx hb d_K_init_68 rfl (lv_at hl 0 rfl) ?_
  refine va_new (ci := 4) (fs := [.int 0, .int 0, .int 0]) (C := R_P) (T := F_P) (N := 3) hx hb hw0 in_P ft_P tk_P hown (hw0 (.classLink R_K 42 R_P) (List.mem_of_getElem? (i := 99) rfl)) (hw0 (.instantiable R_P 3) (List.mem_of_getElem? (i := 100) rfl)) (hw0 (.initialized R_P) (List.mem_of_getElem? (i := 101) rfl)) hK hP hD hS hA rfl (fun j hj => nw_P j hj) (by decide +kernel) (by decide +kernel) d_K_init_69 (fun q_23 H hP hD hS => ?_)
  replace hP : va_P (dC, dI) vwCl [(h0, .inr (0, [.ref q_1, .ref q_3, .ref q_7, .ref q_11, .ref q_15, .ref q_20, .null, .int 0, .int 0])), (q_1, .inl (cA_2, 8, .inr (.inr (.inr (.inr (fun _ => none)))))), (q_3, .inr (1, [.ref q1_4, .int 0])), (q1_4, .inl (cB_5, 256, .inl (fun _ => 0))), (q_7, .inr (1, [.ref q1_8, .int 0])), (q1_8, .inl (cB_9, 256, .inl (fun _ => 0))), (q_11, .inr (1, [.ref q1_12, .int 0])), (q1_12, .inl (cB_13, 256, .inl (fun _ => 0))), (q_15, .inr (2, [.ref q1_16, .ref q2_17, .ref q3_18, .int 0])), (q_20, .inr (3, [.ref q1_21, .int 0])), (q_23, .inr (4, [.int 0, .int 0, .int 0]))] H := hP
  replace hD : va_D A [(h0, .inr (0, [.ref q_1, .ref q_3, .ref q_7, .ref q_11, .ref q_15, .ref q_20, .null, .int 0, .int 0])), (q_1, .inl (cA_2, 8, .inr (.inr (.inr (.inr (fun _ => none)))))), (q_3, .inr (1, [.ref q1_4, .int 0])), (q1_4, .inl (cB_5, 256, .inl (fun _ => 0))), (q_7, .inr (1, [.ref q1_8, .int 0])), (q1_8, .inl (cB_9, 256, .inl (fun _ => 0))), (q_11, .inr (1, [.ref q1_12, .int 0])), (q1_12, .inl (cB_13, 256, .inl (fun _ => 0))), (q_15, .inr (2, [.ref q1_16, .ref q2_17, .ref q3_18, .int 0])), (q_20, .inr (3, [.ref q1_21, .int 0])), (q_23, .inr (4, [.int 0, .int 0, .int 0]))] := hD
  refine W.widen (k := 16) (n := 1819) (by decide +kernel) (by decide +kernel) ?_
  refine lv_dup hx hb d_K_init_72 rfl ?_
  have hPc := hP.sub (ws' := [(q_23, .inr (4, [.int 0, .int 0, .int 0]))]) [10] rfl
  have hKc := hK.sub (tys' := []) [] rfl
  have hDc := hD.sub (ws' := [(q_23, .inr (4, [.int 0, .int 0, .int 0]))]) [10] (by decide) rfl
  have hFc := va_free (wc := [(q_23, .inr (4, [.int 0, .int 0, .int 0]))]) hD hS hA [10] rfl
  refine va_callv (va_runI (As := []) (rest := [.ref q_23, .ref h0]) ⟨hx, hb, hml, hown, hw0⟩ (c_Power_init l dC dI H.size q_23) (cwI 0 hw0 (gd_I 102 rfl) rfl rfl rfl (hw0 (.initialized R_P) (List.mem_of_getElem? (i := 101) rfl)) (hw0 (.methodLink R_K 44 y_P_init) (List.mem_of_getElem? (i := 103) rfl)) (hw0 (.instanceMethod y_P_init) (List.mem_of_getElem? (i := 104) rfl)) rfl (by decide +kernel) ⟨by decide +kernel, by decide +kernel⟩) (prS_E hPc hKc hDc hN) rfl rfl hl.1 rfl (lv_room (Nat.le_of_ble_eq_true rfl)) d_K_init_73 ⟨by decide +kernel, by decide +kernel⟩) hS (fun q _ h => hFc q h) hFc (fun u t H1 locs ht hvm hw hB hz1 hk1 hS => ?_)
  obtain ⟨hP1, hK1, hD1⟩ := hB
  rw [ht] at hP1
  have hK1 := va_K.moved hvm.symm hK1
  try dsimp only at hw
  obtain ⟨hP, hD⟩ := va_join (wr := [(h0, .inr (0, [.ref q_1, .ref q_3, .ref q_7, .ref q_11, .ref q_15, .ref q_20, .null, .int 0, .int 0])), (q_1, .inl (cA_2, 8, .inr (.inr (.inr (.inr (fun _ => none)))))), (q_3, .inr (1, [.ref q1_4, .int 0])), (q1_4, .inl (cB_5, 256, .inl (fun _ => 0))), (q_7, .inr (1, [.ref q1_8, .int 0])), (q1_8, .inl (cB_9, 256, .inl (fun _ => 0))), (q_11, .inr (1, [.ref q1_12, .int 0])), (q1_12, .inl (cB_13, 256, .inl (fun _ => 0))), (q_15, .inr (2, [.ref q1_16, .ref q2_17, .ref q3_18, .int 0])), (q_20, .inr (3, [.ref q1_21, .int 0]))]) (w1 := [(q_23, .inr (4, [.int 0, .int 0, .int 0]))]) hP hD [10] [0, 1, 2, 3, 4, 5, 6, 7, 8, 9] rfl rfl (by decide) (by decide) hk1 hFc hP1 hD1
  generalize H1 = H at hP hS ⊢
  replace hP : va_P (dC, dI) vwCl [(h0, .inr (0, [.ref q_1, .ref q_3, .ref q_7, .ref q_11, .ref q_15, .ref q_20, .null, .int 0, .int 0])), (q_1, .inl (cA_2, 8, .inr (.inr (.inr (.inr (fun _ => none)))))), (q_3, .inr (1, [.ref q1_4, .int 0])), (q1_4, .inl (cB_5, 256, .inl (fun _ => 0))), (q_7, .inr (1, [.ref q1_8, .int 0])), (q1_8, .inl (cB_9, 256, .inl (fun _ => 0))), (q_11, .inr (1, [.ref q1_12, .int 0])), (q1_12, .inl (cB_13, 256, .inl (fun _ => 0))), (q_15, .inr (2, [.ref q1_16, .ref q2_17, .ref q3_18, .int 0])), (q_20, .inr (3, [.ref q1_21, .int 0])), (q_23, .inr (4, [.int 0, .int 0, .int 0]))] H := hP
  replace hD : va_D A [(h0, .inr (0, [.ref q_1, .ref q_3, .ref q_7, .ref q_11, .ref q_15, .ref q_20, .null, .int 0, .int 0])), (q_1, .inl (cA_2, 8, .inr (.inr (.inr (.inr (fun _ => none)))))), (q_3, .inr (1, [.ref q1_4, .int 0])), (q1_4, .inl (cB_5, 256, .inl (fun _ => 0))), (q_7, .inr (1, [.ref q1_8, .int 0])), (q1_8, .inl (cB_9, 256, .inl (fun _ => 0))), (q_11, .inr (1, [.ref q1_12, .int 0])), (q1_12, .inl (cB_13, 256, .inl (fun _ => 0))), (q_15, .inr (2, [.ref q1_16, .ref q2_17, .ref q3_18, .int 0])), (q_20, .inr (3, [.ref q1_21, .int 0])), (q_23, .inr (4, [.int 0, .int 0, .int 0]))] := hD
  replace hK : va_K (dC, dI) vwCl [(cA_2, .object R_D), (cB_5, .byte), (cB_9, .byte), (cB_13, .byte)] s := hK
  refine va_putF (D := (dC, dI)) (ci := 0) (v := .ref q_23) (ty := (.object "TextKeeper$Power")) (C := R_K) (T := F_K) (N := 9) hx hb hw0 in_K ft_K tk_K nk_K hown hK hP hD hS 0 rfl rfl 6 (by decide) (hw0 (.fieldLink R_K 45 "TextKeeper" "power" "LTextKeeper$Power;") (List.mem_of_getElem? (i := 105) rfl)) (fun _ h9 => h9) rfl hin rfl (by decide +kernel) rfl rfl (Nat.le_of_ble_eq_true rfl) d_K_init_76 (fun H locs hP hD hS => ?_)
  replace hP : va_P (dC, dI) vwCl [(h0, .inr (0, [.ref q_1, .ref q_3, .ref q_7, .ref q_11, .ref q_15, .ref q_20, .ref q_23, .int 0, .int 0])), (q_1, .inl (cA_2, 8, .inr (.inr (.inr (.inr (fun _ => none)))))), (q_3, .inr (1, [.ref q1_4, .int 0])), (q1_4, .inl (cB_5, 256, .inl (fun _ => 0))), (q_7, .inr (1, [.ref q1_8, .int 0])), (q1_8, .inl (cB_9, 256, .inl (fun _ => 0))), (q_11, .inr (1, [.ref q1_12, .int 0])), (q1_12, .inl (cB_13, 256, .inl (fun _ => 0))), (q_15, .inr (2, [.ref q1_16, .ref q2_17, .ref q3_18, .int 0])), (q_20, .inr (3, [.ref q1_21, .int 0])), (q_23, .inr (4, [.int 0, .int 0, .int 0]))] H := hP
  replace hD : va_D A [(h0, .inr (0, [.ref q_1, .ref q_3, .ref q_7, .ref q_11, .ref q_15, .ref q_20, .ref q_23, .int 0, .int 0])), (q_1, .inl (cA_2, 8, .inr (.inr (.inr (.inr (fun _ => none)))))), (q_3, .inr (1, [.ref q1_4, .int 0])), (q1_4, .inl (cB_5, 256, .inl (fun _ => 0))), (q_7, .inr (1, [.ref q1_8, .int 0])), (q1_8, .inl (cB_9, 256, .inl (fun _ => 0))), (q_11, .inr (1, [.ref q1_12, .int 0])), (q1_12, .inl (cB_13, 256, .inl (fun _ => 0))), (q_15, .inr (2, [.ref q1_16, .ref q2_17, .ref q3_18, .int 0])), (q_20, .inr (3, [.ref q1_21, .int 0])), (q_23, .inr (4, [.int 0, .int 0, .int 0]))] := hD
  refine lv_aload_n hx hb d_K_init_79 rfl (lv_at hl 0 rfl) ?_
  refine lv_iconst (v := 0) hx hb d_K_init_80 (by decide) ?_
  refine va_put (D := (dC, dI)) (ci := 0) (v := .int 0) (ty := .int) (C := R_K) (T := F_K) (N := 9) hx hb hw0 in_K ft_K tk_K nk_K hown hK hP hD hS 0 rfl rfl 7 (by decide) (hw0 (.fieldLink R_K 49 "TextKeeper" "madeDocuments" "I") (List.mem_of_getElem? (i := 106) rfl)) (fun _ h9 => h9) rfl (by decide +kernel) rfl rfl (Nat.le_of_ble_eq_true rfl) d_K_init_81 (fun H locs hP hD hS => ?_)
  replace hP : va_P (dC, dI) vwCl [(h0, .inr (0, [.ref q_1, .ref q_3, .ref q_7, .ref q_11, .ref q_15, .ref q_20, .ref q_23, .int 0, .int 0])), (q_1, .inl (cA_2, 8, .inr (.inr (.inr (.inr (fun _ => none)))))), (q_3, .inr (1, [.ref q1_4, .int 0])), (q1_4, .inl (cB_5, 256, .inl (fun _ => 0))), (q_7, .inr (1, [.ref q1_8, .int 0])), (q1_8, .inl (cB_9, 256, .inl (fun _ => 0))), (q_11, .inr (1, [.ref q1_12, .int 0])), (q1_12, .inl (cB_13, 256, .inl (fun _ => 0))), (q_15, .inr (2, [.ref q1_16, .ref q2_17, .ref q3_18, .int 0])), (q_20, .inr (3, [.ref q1_21, .int 0])), (q_23, .inr (4, [.int 0, .int 0, .int 0]))] H := hP
  replace hD : va_D A [(h0, .inr (0, [.ref q_1, .ref q_3, .ref q_7, .ref q_11, .ref q_15, .ref q_20, .ref q_23, .int 0, .int 0])), (q_1, .inl (cA_2, 8, .inr (.inr (.inr (.inr (fun _ => none)))))), (q_3, .inr (1, [.ref q1_4, .int 0])), (q1_4, .inl (cB_5, 256, .inl (fun _ => 0))), (q_7, .inr (1, [.ref q1_8, .int 0])), (q1_8, .inl (cB_9, 256, .inl (fun _ => 0))), (q_11, .inr (1, [.ref q1_12, .int 0])), (q1_12, .inl (cB_13, 256, .inl (fun _ => 0))), (q_15, .inr (2, [.ref q1_16, .ref q2_17, .ref q3_18, .int 0])), (q_20, .inr (3, [.ref q1_21, .int 0])), (q_23, .inr (4, [.int 0, .int 0, .int 0]))] := hD
  refine lv_aload_n hx hb d_K_init_84 rfl (lv_at hl 0 rfl) ?_
  refine lv_iconst (v := (-1)) hx hb d_K_init_85 (by decide) ?_
  refine va_put (D := (dC, dI)) (ci := 0) (v := .int (-1)) (ty := .int) (C := R_K) (T := F_K) (N := 9) hx hb hw0 in_K ft_K tk_K nk_K hown hK hP hD hS 0 rfl rfl 8 (by decide) (hw0 (.fieldLink R_K 53 "TextKeeper" "fetchedSteps" "I") (List.mem_of_getElem? (i := 107) rfl)) (fun _ h9 => h9) rfl (by decide +kernel) rfl rfl (Nat.le_of_ble_eq_true rfl) d_K_init_86 (fun H locs hP hD hS => ?_)
  replace hP : va_P (dC, dI) vwCl [(h0, .inr (0, [.ref q_1, .ref q_3, .ref q_7, .ref q_11, .ref q_15, .ref q_20, .ref q_23, .int 0, .int (-1)])), (q_1, .inl (cA_2, 8, .inr (.inr (.inr (.inr (fun _ => none)))))), (q_3, .inr (1, [.ref q1_4, .int 0])), (q1_4, .inl (cB_5, 256, .inl (fun _ => 0))), (q_7, .inr (1, [.ref q1_8, .int 0])), (q1_8, .inl (cB_9, 256, .inl (fun _ => 0))), (q_11, .inr (1, [.ref q1_12, .int 0])), (q1_12, .inl (cB_13, 256, .inl (fun _ => 0))), (q_15, .inr (2, [.ref q1_16, .ref q2_17, .ref q3_18, .int 0])), (q_20, .inr (3, [.ref q1_21, .int 0])), (q_23, .inr (4, [.int 0, .int 0, .int 0]))] H := hP
  replace hD : va_D A [(h0, .inr (0, [.ref q_1, .ref q_3, .ref q_7, .ref q_11, .ref q_15, .ref q_20, .ref q_23, .int 0, .int (-1)])), (q_1, .inl (cA_2, 8, .inr (.inr (.inr (.inr (fun _ => none)))))), (q_3, .inr (1, [.ref q1_4, .int 0])), (q1_4, .inl (cB_5, 256, .inl (fun _ => 0))), (q_7, .inr (1, [.ref q1_8, .int 0])), (q1_8, .inl (cB_9, 256, .inl (fun _ => 0))), (q_11, .inr (1, [.ref q1_12, .int 0])), (q1_12, .inl (cB_13, 256, .inl (fun _ => 0))), (q_15, .inr (2, [.ref q1_16, .ref q2_17, .ref q3_18, .int 0])), (q_20, .inr (3, [.ref q1_21, .int 0])), (q_23, .inr (4, [.int 0, .int 0, .int 0]))] := hD
  have hP9 := hP.sub (ws' := [(h0, .inr (0, [.ref q_1, .ref q_3, .ref q_7, .ref q_11, .ref q_15, .ref q_20, .ref q_23, .int 0, .int (-1)])), (q_1, .inl (cA_2, 8, .inr (.inr (.inr (.inr (fun _ => none)))))), (q_3, .inr (1, [.ref q1_4, .int 0])), (q1_4, .inl (cB_5, 256, .inl (fun _ => 0))), (q_7, .inr (1, [.ref q1_8, .int 0])), (q_23, .inr (4, [.int 0, .int 0, .int 0]))]) [0, 1, 2, 3, 4, 10] rfl
  have hD9 := hD.sub (ws' := [(h0, .inr (0, [.ref q_1, .ref q_3, .ref q_7, .ref q_11, .ref q_15, .ref q_20, .ref q_23, .int 0, .int (-1)])), (q_1, .inl (cA_2, 8, .inr (.inr (.inr (.inr (fun _ => none)))))), (q_3, .inr (1, [.ref q1_4, .int 0])), (q1_4, .inl (cB_5, 256, .inl (fun _ => 0))), (q_7, .inr (1, [.ref q1_8, .int 0])), (q_23, .inr (4, [.int 0, .int 0, .int 0]))]) [0, 1, 2, 3, 4, 10] (by decide) rfl
  have hK9 := hK.sub (tys' := [(cA_2, .object R_D), (cB_5, .byte)]) [0, 1] rfl
  exact W.vret hx hb hr (fun t ht hW => ⟨⟨(), rfl, trivial, q_1, cA_2, q_3, q1_4, cB_5, q_7, q1_8, q_11, q_15, q_20, q_23, by rw [ht]; exact hP9, va_K.moved hW.alike hK9, hD9⟩, hS.F ht⟩) hS.2.2 d_K_init_89
