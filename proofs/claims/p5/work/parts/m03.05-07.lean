section
set_option maxHeartbeats 4000000 in
set_option maxRecDepth 100000 in
theorem c_Power_init (l : Launch) (dC : Nat → ClassId) (dI : Nat → Nat → Nat) (sz : Nat) (h0 : Nat)  : Met l y_P_init k_P_init ({ frames := 1, cells := 0, slots := 0, locals := 12 } : Room) (va_Pc [.ref h0] (pc_E (dC, dI) [(h0, .inr (4, [.int 0, .int 0, .int 0]))] [] sz)) (va_Qv (fun (_ : Unit) => True) (fun (_ : Unit) t => at_E (dC, dI) (va_A [(h0, .inr (4, [.int 0, .int 0, .int 0]))] sz) [(h0, .inr (4, [.int 0, .int 0, .int 0]))] [] t) (va_A [(h0, .inr (4, [.int 0, .int 0, .int 0]))] sz)) 0 0 (va_A [(h0, .inr (4, [.int 0, .int 0, .int 0]))] sz) := by
  refine Met.ofW (cc := prog_5_method_1_code) (maxL := 1) (ret := none) (by decide) rfl ?_
  intro p e s m args below meth c s₁ B hml hv
  obtain ⟨rfl, hsz, hP, hK, hD0, hN⟩ := hv
  have hx := B.exec
  have hb := B.bytes
  have hr := B.returns
  have hts := atoms_spec (ws := k_P_init) B.pre
  have hw0 : ∀ w ∈ w0, w.before _ s = true := fun w h => hts w (List.mem_cons_of_mem _ h)
  have hown : s.vm.findClass R_P = some m.cls := findClass_of_methodNamed B.named
  have hlocks := B.notSynchronized
  have hin : meth.name = "<init>" := (name_of_methodNamed B.named B.method).1
  subst hsz
  have hD := hD0.self (sz := s.heap.size)
  generalize hAe : va_A [(h0, .inr (4, [.int 0, .int 0, .int 0]))] s.heap.size = A at hD ⊢
  have hA : ∀ q : Nat, s.heap.size ≤ q → A q := fun q h => by rw [← hAe]; exact Or.inr h
  have hS : va_S A s.heap s.heap [] := va_S.rf
  have hP : va_P (dC, dI) vwCl [(h0, .inr (4, [.int 0, .int 0, .int 0]))] s.heap := hP
  have hl := lv_entry ([.ref h0]) (n := 1) (Nat.le_of_ble_eq_true rfl)
  rw [lg_entry_eq]
  generalize (lg_sl ([.ref h0]) ++ List.replicate (1 - (lg_sl ([.ref h0])).length) Slot.unset).toArray = ls at hl ⊢
  have hl : lv_has ls 1 [(0, .ref h0)] := hl
  refine lv_aload_n hx hb d_P_init_0 rfl (lv_at hl 0 rfl) ?_
  refine W.objInit hx hb hown (hw0 (.methodLink R_P 1 objectInit) wm_135) (hw0 (.instanceMethod objectInit) wm_136) (hw0 (.code objectInit ⟨#[0xb1]⟩ 1 none) wm_137) rfl (by rw [hml]; exact hl.1) rfl d_P_init_1 (Nat.le_of_ble_eq_true rfl) (Nat.le_of_ble_eq_true rfl) ?_
  refine W.eq (g2 := F0 m 4 ls []) rfl ?_
  refine lv_aload_n hx hb d_P_init_4 rfl (lv_at hl 0 rfl) ?_
  refine lv_iconst (v := 0) hx hb d_P_init_5 (by decide) ?_
  refine va_put (D := (dC, dI)) (ci := 4) (v := .int 0) (ty := .boolean) (C := R_P) (T := F_P) (N := 3) hx hb hw0 in_P ft_P tk_P nk_P hown hK hP hD hS 0 rfl rfl 0 (by decide) (hw0 (.fieldLink R_P 7 "TextKeeper$Power" "down" "Z") wm_138) (fun _ h9 => h9) rfl (by decide +kernel) rfl rfl (Nat.le_of_ble_eq_true rfl) d_P_init_6 (fun H locs hP hD hS => ?_)
  replace hP : va_P (dC, dI) vwCl [(h0, .inr (4, [.int 0, .int 0, .int 0]))] H := hP
  replace hD : va_D A [(h0, .inr (4, [.int 0, .int 0, .int 0]))] := hD
  refine lv_aload_n hx hb d_P_init_9 rfl (lv_at hl 0 rfl) ?_
  refine lv_iconst (v := 0) hx hb d_P_init_10 (by decide) ?_
  refine va_put (D := (dC, dI)) (ci := 4) (v := .int 0) (ty := .boolean) (C := R_P) (T := F_P) (N := 3) hx hb hw0 in_P ft_P tk_P nk_P hown hK hP hD hS 0 rfl rfl 1 (by decide) (hw0 (.fieldLink R_P 13 "TextKeeper$Power" "going" "Z") wm_139) (fun _ h9 => h9) rfl (by decide +kernel) rfl rfl (Nat.le_of_ble_eq_true rfl) d_P_init_11 (fun H locs hP hD hS => ?_)
  replace hP : va_P (dC, dI) vwCl [(h0, .inr (4, [.int 0, .int 0, .int 0]))] H := hP
  replace hD : va_D A [(h0, .inr (4, [.int 0, .int 0, .int 0]))] := hD
  refine lv_aload_n hx hb d_P_init_14 rfl (lv_at hl 0 rfl) ?_
  refine lv_iconst (v := 0) hx hb d_P_init_15 (by decide) ?_
  refine va_put (D := (dC, dI)) (ci := 4) (v := .int 0) (ty := .int) (C := R_P) (T := F_P) (N := 3) hx hb hw0 in_P ft_P tk_P nk_P hown hK hP hD hS 0 rfl rfl 2 (by decide) (hw0 (.fieldLink R_P 16 "TextKeeper$Power" "writesLeft" "I") wm_140) (fun _ h9 => h9) rfl (by decide +kernel) rfl rfl (Nat.le_of_ble_eq_true rfl) d_P_init_16 (fun H locs hP hD hS => ?_)
  replace hP : va_P (dC, dI) vwCl [(h0, .inr (4, [.int 0, .int 0, .int 0]))] H := hP
  replace hD : va_D A [(h0, .inr (4, [.int 0, .int 0, .int 0]))] := hD
  have hP9 := hP.sub (ws' := [(h0, .inr (4, [.int 0, .int 0, .int 0]))]) [0] rfl
  have hD9 := hD.sub (ws' := [(h0, .inr (4, [.int 0, .int 0, .int 0]))]) [0] (by decide) rfl
  have hK9 := hK.sub (tys' := []) [] rfl
  exact W.vret hx hb hr (fun t ht hW => ⟨⟨(), rfl, trivial, by rw [ht]; exact hP9, va_K.moved hW.alike hK9, hD9⟩, hS.F ht⟩) hS.2.2 d_P_init_19
set_option maxHeartbeats 4000000 in
set_option maxRecDepth 100000 in
theorem c_Text_init (l : Launch) (dC : Nat → ClassId) (dI : Nat → Nat → Nat) (sz : Nat) (h0 : Nat)  : Met l y_T_init k_T_init ({ frames := 1, cells := 1, slots := 256, locals := 12 } : Room) (va_Pc [.ref h0] (pc_E (dC, dI) [(h0, .inr (1, [.null, .int 0]))] [] sz)) (va_Qv (fun (_ : Unit) => True) (fun (_ : Unit) t => ∃ (q1 : Nat) (cB : ClassId), at_E (dC, dI) (va_A [(h0, .inr (1, [.null, .int 0]))] sz) [(h0, .inr (1, [.ref q1, .int 0])), (q1, .inl (cB, 256, .inl (fun _ => 0)))] [(cB, .byte)] t) (va_A [(h0, .inr (1, [.null, .int 0]))] sz)) 1 256 (va_A [(h0, .inr (1, [.null, .int 0]))] sz) := by
  refine Met.ofW (cc := prog_7_method_1_code) (maxL := 1) (ret := none) (by decide) rfl ?_
  intro p e s m args below meth c s₁ B hml hv
  obtain ⟨rfl, hsz, hP, hK, hD0, hN⟩ := hv
  have hx := B.exec
  have hb := B.bytes
  have hr := B.returns
  have hts := atoms_spec (ws := k_T_init) B.pre
  have hw0 : ∀ w ∈ w0, w.before _ s = true := fun w h => hts w (List.mem_cons_of_mem _ h)
  have hown : s.vm.findClass R_T = some m.cls := findClass_of_methodNamed B.named
  have hlocks := B.notSynchronized
  have hin : meth.name = "<init>" := (name_of_methodNamed B.named B.method).1
  subst hsz
  have hD := hD0.self (sz := s.heap.size)
  generalize hAe : va_A [(h0, .inr (1, [.null, .int 0]))] s.heap.size = A at hD ⊢
  have hA : ∀ q : Nat, s.heap.size ≤ q → A q := fun q h => by rw [← hAe]; exact Or.inr h
  have hS : va_S A s.heap s.heap [] := va_S.rf
  have hP : va_P (dC, dI) vwCl [(h0, .inr (1, [.null, .int 0]))] s.heap := hP
  have hl := lv_entry ([.ref h0]) (n := 1) (Nat.le_of_ble_eq_true rfl)
  rw [lg_entry_eq]
  generalize (lg_sl ([.ref h0]) ++ List.replicate (1 - (lg_sl ([.ref h0])).length) Slot.unset).toArray = ls at hl ⊢
  have hl : lv_has ls 1 [(0, .ref h0)] := hl
  refine lv_aload_n hx hb d_T_init_0 rfl (lv_at hl 0 rfl) ?_
  refine W.objInit hx hb hown (hw0 (.methodLink R_T 3 objectInit) wm_141) (hw0 (.instanceMethod objectInit) wm_136) (hw0 (.code objectInit ⟨#[0xb1]⟩ 1 none) wm_137) rfl (by rw [hml]; exact hl.1) rfl d_T_init_1 (Nat.le_of_ble_eq_true rfl) (Nat.le_of_ble_eq_true rfl) ?_
  refine W.eq (g2 := F0 m 4 ls []) rfl ?_
  refine lv_aload_n hx hb d_T_init_4 rfl (lv_at hl 0 rfl) ?_
  refine lv_sipush (v := 256) hx hb d_T_init_5 (by decide +kernel) ?_
  refine va_newa (atype := .byte) (ty := .byte) (N' := 256) (a0 := (256, .inl (fun _ => 0))) hx hb (hw0 (.arrayClass .byte) wm_142) rfl hK hP hD hS hA (fun _ => rfl) (by decide +kernel) (by decide +kernel) (by decide +kernel) (by decide +kernel) (by decide +kernel) d_T_init_8 (fun q_1 cA_2 H hK hP hD hS => ?_)
  replace hK : va_K (dC, dI) vwCl [(cA_2, .byte)] s := hK
  replace hP : va_P (dC, dI) vwCl [(h0, .inr (1, [.null, .int 0])), (q_1, .inl (cA_2, 256, .inl (fun _ => 0)))] H := hP
  replace hD : va_D A [(h0, .inr (1, [.null, .int 0])), (q_1, .inl (cA_2, 256, .inl (fun _ => 0)))] := hD
  refine W.widen (k := 1) (n := 256) (by decide +kernel) (by decide +kernel) ?_
  refine va_putF (D := (dC, dI)) (ci := 1) (v := .ref q_1) (ty := (.array .byte)) (C := R_T) (T := F_T) (N := 2) hx hb hw0 in_T ft_T tk_T nk_T hown hK hP hD hS 0 rfl rfl 0 (by decide) (hw0 (.fieldLink R_T 9 "TextKeeper$Text" "bytes" "[B") wm_143) (fun _ h9 => h9) rfl hin rfl (by decide +kernel) rfl rfl (Nat.le_of_ble_eq_true rfl) d_T_init_10 (fun H locs hP hD hS => ?_)
  replace hP : va_P (dC, dI) vwCl [(h0, .inr (1, [.ref q_1, .int 0])), (q_1, .inl (cA_2, 256, .inl (fun _ => 0)))] H := hP
  replace hD : va_D A [(h0, .inr (1, [.ref q_1, .int 0])), (q_1, .inl (cA_2, 256, .inl (fun _ => 0)))] := hD
  refine lv_aload_n hx hb d_T_init_13 rfl (lv_at hl 0 rfl) ?_
  refine lv_iconst (v := 0) hx hb d_T_init_14 (by decide) ?_
  refine va_put (D := (dC, dI)) (ci := 1) (v := .int 0) (ty := .int) (C := R_T) (T := F_T) (N := 2) hx hb hw0 in_T ft_T tk_T nk_T hown hK hP hD hS 0 rfl rfl 1 (by decide) (hw0 (.fieldLink R_T 15 "TextKeeper$Text" "length" "I") wm_144) (fun _ h9 => h9) rfl (by decide +kernel) rfl rfl (Nat.le_of_ble_eq_true rfl) d_T_init_15 (fun H locs hP hD hS => ?_)
  replace hP : va_P (dC, dI) vwCl [(h0, .inr (1, [.ref q_1, .int 0])), (q_1, .inl (cA_2, 256, .inl (fun _ => 0)))] H := hP
  replace hD : va_D A [(h0, .inr (1, [.ref q_1, .int 0])), (q_1, .inl (cA_2, 256, .inl (fun _ => 0)))] := hD
  have hP9 := hP.sub (ws' := [(h0, .inr (1, [.ref q_1, .int 0])), (q_1, .inl (cA_2, 256, .inl (fun _ => 0)))]) [0, 1] rfl
  have hD9 := hD.sub (ws' := [(h0, .inr (1, [.ref q_1, .int 0])), (q_1, .inl (cA_2, 256, .inl (fun _ => 0)))]) [0, 1] (by decide) rfl
  have hK9 := hK.sub (tys' := [(cA_2, .byte)]) [0] rfl
  exact W.vret hx hb hr (fun t ht hW => ⟨⟨(), rfl, trivial, q_1, cA_2, by rw [ht]; exact hP9, va_K.moved hW.alike hK9, hD9⟩, hS.F ht⟩) hS.2.2 d_T_init_18
set_option maxHeartbeats 4000000 in
set_option maxRecDepth 100000 in
theorem c_PieceWriter_init (l : Launch) (dC : Nat → ClassId) (dI : Nat → Nat → Nat) (sz : Nat) (h0 : Nat)  : Met l y_W_init k_W_init ({ frames := 1, cells := 1, slots := 512, locals := 12 } : Room) (va_Pc [.ref h0] (pc_E (dC, dI) [(h0, .inr (3, [.null, .int 0]))] [] sz)) (va_Qv (fun (_ : Unit) => True) (fun (_ : Unit) t => ∃ (q1 : Nat), at_E (dC, dI) (va_A [(h0, .inr (3, [.null, .int 0]))] sz) [(h0, .inr (3, [.ref q1, .int 0]))] [] t) (va_A [(h0, .inr (3, [.null, .int 0]))] sz)) 1 512 (va_A [(h0, .inr (3, [.null, .int 0]))] sz) := by
  refine Met.ofW (cc := prog_4_method_1_code) (maxL := 1) (ret := none) (by decide) rfl ?_
  intro p e s m args below meth c s₁ B hml hv
  obtain ⟨rfl, hsz, hP, hK, hD0, hN⟩ := hv
  have hx := B.exec
  have hb := B.bytes
  have hr := B.returns
  have hts := atoms_spec (ws := k_W_init) B.pre
  have hw0 : ∀ w ∈ w0, w.before _ s = true := fun w h => hts w (List.mem_cons_of_mem _ h)
  have hown : s.vm.findClass R_W = some m.cls := findClass_of_methodNamed B.named
  have hlocks := B.notSynchronized
  have hin : meth.name = "<init>" := (name_of_methodNamed B.named B.method).1
  subst hsz
  have hD := hD0.self (sz := s.heap.size)
  generalize hAe : va_A [(h0, .inr (3, [.null, .int 0]))] s.heap.size = A at hD ⊢
  have hA : ∀ q : Nat, s.heap.size ≤ q → A q := fun q h => by rw [← hAe]; exact Or.inr h
  have hS : va_S A s.heap s.heap [] := va_S.rf
  have hP : va_P (dC, dI) vwCl [(h0, .inr (3, [.null, .int 0]))] s.heap := hP
  have hl := lv_entry ([.ref h0]) (n := 1) (Nat.le_of_ble_eq_true rfl)
  rw [lg_entry_eq]
  generalize (lg_sl ([.ref h0]) ++ List.replicate (1 - (lg_sl ([.ref h0])).length) Slot.unset).toArray = ls at hl ⊢
  have hl : lv_has ls 1 [(0, .ref h0)] := hl
  refine lv_aload_n hx hb d_W_init_0 rfl (lv_at hl 0 rfl) ?_
  refine W.objInit hx hb hown (hw0 (.methodLink R_W 3 objectInit) wm_145) (hw0 (.instanceMethod objectInit) wm_136) (hw0 (.code objectInit ⟨#[0xb1]⟩ 1 none) wm_137) rfl (by rw [hml]; exact hl.1) rfl d_W_init_1 (Nat.le_of_ble_eq_true rfl) (Nat.le_of_ble_eq_true rfl) ?_
  refine W.eq (g2 := F0 m 4 ls []) rfl ?_
  refine lv_aload_n hx hb d_W_init_4 rfl (lv_at hl 0 rfl) ?_
  refine lv_sipush (v := 512) hx hb d_W_init_5 (by decide +kernel) ?_
  refine va_newa (atype := .byte) (ty := .byte) (N' := 512) (a0 := (512, .inl (fun _ => 0))) hx hb (hw0 (.arrayClass .byte) wm_142) rfl hK hP hD hS hA (fun _ => rfl) (by decide +kernel) (by decide +kernel) (by decide +kernel) (by decide +kernel) (by decide +kernel) d_W_init_8 (fun q_1 cA_2 H hK hP hD hS => ?_)
  replace hK : va_K (dC, dI) vwCl [(cA_2, .byte)] s := hK
  replace hP : va_P (dC, dI) vwCl [(h0, .inr (3, [.null, .int 0])), (q_1, .inl (cA_2, 512, .inl (fun _ => 0)))] H := hP
  replace hD : va_D A [(h0, .inr (3, [.null, .int 0])), (q_1, .inl (cA_2, 512, .inl (fun _ => 0)))] := hD
  refine W.widen (k := 1) (n := 512) (by decide +kernel) (by decide +kernel) ?_
  refine va_putF (D := (dC, dI)) (ci := 3) (v := .ref q_1) (ty := (.array .byte)) (C := R_W) (T := F_W) (N := 2) hx hb hw0 in_W ft_W tk_W nk_W hown hK hP hD hS 0 rfl rfl 0 (by decide) (hw0 (.fieldLink R_W 9 "TextKeeper$PieceWriter" "row" "[B") wm_146) (fun _ h9 => h9) rfl hin rfl (by decide +kernel) rfl rfl (Nat.le_of_ble_eq_true rfl) d_W_init_10 (fun H locs hP hD hS => ?_)
  replace hP : va_P (dC, dI) vwCl [(h0, .inr (3, [.ref q_1, .int 0])), (q_1, .inl (cA_2, 512, .inl (fun _ => 0)))] H := hP
  replace hD : va_D A [(h0, .inr (3, [.ref q_1, .int 0])), (q_1, .inl (cA_2, 512, .inl (fun _ => 0)))] := hD
  refine lv_aload_n hx hb d_W_init_13 rfl (lv_at hl 0 rfl) ?_
  refine lv_iconst (v := 0) hx hb d_W_init_14 (by decide) ?_
  refine va_put (D := (dC, dI)) (ci := 3) (v := .int 0) (ty := .int) (C := R_W) (T := F_W) (N := 2) hx hb hw0 in_W ft_W tk_W nk_W hown hK hP hD hS 0 rfl rfl 1 (by decide) (hw0 (.fieldLink R_W 15 "TextKeeper$PieceWriter" "length" "I") wm_147) (fun _ h9 => h9) rfl (by decide +kernel) rfl rfl (Nat.le_of_ble_eq_true rfl) d_W_init_15 (fun H locs hP hD hS => ?_)
  replace hP : va_P (dC, dI) vwCl [(h0, .inr (3, [.ref q_1, .int 0])), (q_1, .inl (cA_2, 512, .inl (fun _ => 0)))] H := hP
  replace hD : va_D A [(h0, .inr (3, [.ref q_1, .int 0])), (q_1, .inl (cA_2, 512, .inl (fun _ => 0)))] := hD
  have hP9 := hP.sub (ws' := [(h0, .inr (3, [.ref q_1, .int 0]))]) [0] rfl
  have hD9 := hD.sub (ws' := [(h0, .inr (3, [.ref q_1, .int 0]))]) [0] (by decide) rfl
  have hK9 := hK.sub (tys' := []) [] rfl
  exact W.vret hx hb hr (fun t ht hW => ⟨⟨(), rfl, trivial, q_1, by rw [ht]; exact hP9, va_K.moved hW.alike hK9, hD9⟩, hS.F ht⟩) hS.2.2 d_W_init_18
set_option maxHeartbeats 4000000 in
set_option maxRecDepth 100000 in
theorem c_Maker_init (l : Launch) (dC : Nat → ClassId) (dI : Nat → Nat → Nat) (sz : Nat) (h0 : Nat)  : Met l y_M_init k_M_init ({ frames := 2, cells := 5, slots := 516, locals := 32 } : Room) (va_Pc [.ref h0] (pc_E (dC, dI) [(h0, .inr (2, [.null, .null, .null, .int 0]))] [] sz)) (va_Qv (fun (_ : Unit) => True) (fun (_ : Unit) t => ∃ (q1 : Nat) (q2 : Nat) (q3 : Nat), at_E (dC, dI) (va_A [(h0, .inr (2, [.null, .null, .null, .int 0]))] sz) [(h0, .inr (2, [.ref q1, .ref q2, .ref q3, .int 0]))] [] t) (va_A [(h0, .inr (2, [.null, .null, .null, .int 0]))] sz)) 5 516 (va_A [(h0, .inr (2, [.null, .null, .null, .int 0]))] sz) := by
  refine Met.ofW (cc := prog_3_method_1_code) (maxL := 1) (ret := none) (by decide) rfl ?_
  intro p e s m args below meth c s₁ B hml hv
  obtain ⟨rfl, hsz, hP, hK, hD0, hN⟩ := hv
  have hx := B.exec
  have hb := B.bytes
  have hr := B.returns
  have hts := atoms_spec (ws := k_M_init) B.pre
  have hw0 : ∀ w ∈ w0, w.before _ s = true := fun w h => hts w (List.mem_cons_of_mem _ h)
  have hown : s.vm.findClass R_M = some m.cls := findClass_of_methodNamed B.named
  have hlocks := B.notSynchronized
  have hin : meth.name = "<init>" := (name_of_methodNamed B.named B.method).1
  subst hsz
  have hD := hD0.self (sz := s.heap.size)
  generalize hAe : va_A [(h0, .inr (2, [.null, .null, .null, .int 0]))] s.heap.size = A at hD ⊢
  have hA : ∀ q : Nat, s.heap.size ≤ q → A q := fun q h => by rw [← hAe]; exact Or.inr h
  have hS : va_S A s.heap s.heap [] := va_S.rf
  have hP : va_P (dC, dI) vwCl [(h0, .inr (2, [.null, .null, .null, .int 0]))] s.heap := hP
  have hl := lv_entry ([.ref h0]) (n := 1) (Nat.le_of_ble_eq_true rfl)
  rw [lg_entry_eq]
  generalize (lg_sl ([.ref h0]) ++ List.replicate (1 - (lg_sl ([.ref h0])).length) Slot.unset).toArray = ls at hl ⊢
  have hl : lv_has ls 1 [(0, .ref h0)] := hl
  refine lv_aload_n hx hb d_M_init_0 rfl (lv_at hl 0 rfl) ?_
  refine W.objInit hx hb hown (hw0 (.methodLink R_M 3 objectInit) wm_148) (hw0 (.instanceMethod objectInit) wm_136) (hw0 (.code objectInit ⟨#[0xb1]⟩ 1 none) wm_137) rfl (by rw [hml]; exact hl.1) rfl d_M_init_1 (Nat.le_of_ble_eq_true rfl) (Nat.le_of_ble_eq_true rfl) ?_
  refine W.eq (g2 := F0 m 4 ls []) rfl ?_
  refine lv_aload_n hx hb d_M_init_4 rfl (lv_at hl 0 rfl) ?_
  refine va_new (ci := 1) (fs := [.null, .int 0]) (C := R_T) (T := F_T) (N := 2) hx hb hw0 in_T ft_T tk_T hown (hw0 (.classLink R_M 9 R_T) wm_149) (hw0 (.instantiable R_T 2) wm_150) (hw0 (.initialized R_T) wm_151) hK hP hD hS hA rfl (fun j hj => nw_T j hj) (by decide +kernel) (by decide +kernel) d_M_init_5 (fun q_1 H hP hD hS => ?_)
  replace hP : va_P (dC, dI) vwCl [(h0, .inr (2, [.null, .null, .null, .int 0])), (q_1, .inr (1, [.null, .int 0]))] H := hP
  replace hD : va_D A [(h0, .inr (2, [.null, .null, .null, .int 0])), (q_1, .inr (1, [.null, .int 0]))] := hD
  refine W.widen (k := 1) (n := 2) (by decide +kernel) (by decide +kernel) ?_
  refine lv_dup hx hb d_M_init_8 rfl ?_
  have hPc := hP.sub (ws' := [(q_1, .inr (1, [.null, .int 0]))]) [1] rfl
  have hKc := hK.sub (tys' := []) [] rfl
  have hDc := hD.sub (ws' := [(q_1, .inr (1, [.null, .int 0]))]) [1] (by decide) rfl
  have hFc := va_free (wc := [(q_1, .inr (1, [.null, .int 0]))]) hD hS hA [1] rfl
  refine va_callv (va_runI (As := []) (rest := [.ref q_1, .ref h0]) ⟨hx, hb, hml, hown, hw0⟩ (c_Text_init l dC dI H.size q_1) (cwI 0 hw0 (gd_Im wm_152) rfl rfl rfl (hw0 (.initialized R_T) wm_151) (hw0 (.methodLink R_M 11 y_T_init) wm_153) (hw0 (.instanceMethod y_T_init) wm_154) rfl (by decide +kernel) ⟨by decide +kernel, by decide +kernel⟩) (prS_E hPc hKc hDc hN) rfl rfl hl.1 rfl (lv_room (Nat.le_of_ble_eq_true rfl)) d_M_init_9 ⟨by decide +kernel, by decide +kernel⟩) hS (fun q _ h => hFc q h) hFc (fun u t H1 locs ht hvm hw hB hz1 hk1 hS => ?_)
  obtain ⟨q1_2, cB_3, hP1, hK1, hD1⟩ := hB
  rw [ht] at hP1
  have hK1 := va_K.moved hvm.symm hK1
  try dsimp only at hw
  obtain ⟨hP, hD⟩ := va_join (wr := [(h0, .inr (2, [.null, .null, .null, .int 0]))]) (w1 := [(q_1, .inr (1, [.ref q1_2, .int 0])), (q1_2, .inl (cB_3, 256, .inl (fun _ => 0)))]) hP hD [1] [0] rfl rfl (by decide) (by decide) hk1 hFc hP1 hD1
  have hK := hK.app (hK1.sub (tys' := [(cB_3, .byte)]) [0] rfl)
  generalize H1 = H at hP hS ⊢
  replace hP : va_P (dC, dI) vwCl [(h0, .inr (2, [.null, .null, .null, .int 0])), (q_1, .inr (1, [.ref q1_2, .int 0])), (q1_2, .inl (cB_3, 256, .inl (fun _ => 0)))] H := hP
  replace hD : va_D A [(h0, .inr (2, [.null, .null, .null, .int 0])), (q_1, .inr (1, [.ref q1_2, .int 0])), (q1_2, .inl (cB_3, 256, .inl (fun _ => 0)))] := hD
  replace hK : va_K (dC, dI) vwCl [(cB_3, .byte)] s := hK
  refine W.widen (k := 2) (n := 258) (by decide +kernel) (by decide +kernel) ?_
  refine va_put (D := (dC, dI)) (ci := 2) (v := .ref q_1) (ty := (.object "TextKeeper$Text")) (C := R_M) (T := F_M) (N := 4) hx hb hw0 in_M ft_M tk_M nk_M hown hK hP hD hS 0 rfl rfl 0 (by decide) (hw0 (.fieldLink R_M 12 "TextKeeper$Maker" "base" "LTextKeeper$Text;") wm_155) (fun _ h9 => h9) rfl (by decide +kernel) rfl rfl (Nat.le_of_ble_eq_true rfl) d_M_init_12 (fun H locs hP hD hS => ?_)
  replace hP : va_P (dC, dI) vwCl [(h0, .inr (2, [.ref q_1, .null, .null, .int 0])), (q_1, .inr (1, [.ref q1_2, .int 0])), (q1_2, .inl (cB_3, 256, .inl (fun _ => 0)))] H := hP
  replace hD : va_D A [(h0, .inr (2, [.ref q_1, .null, .null, .int 0])), (q_1, .inr (1, [.ref q1_2, .int 0])), (q1_2, .inl (cB_3, 256, .inl (fun _ => 0)))] := hD
  refine lv_aload_n hx hb d_M_init_15 rfl (lv_at hl 0 rfl) ?_
  refine va_new (ci := 1) (fs := [.null, .int 0]) (C := R_T) (T := F_T) (N := 2) hx hb hw0 in_T ft_T tk_T hown (hw0 (.classLink R_M 9 R_T) wm_149) (hw0 (.instantiable R_T 2) wm_150) (hw0 (.initialized R_T) wm_151) hK hP hD hS hA rfl (fun j hj => nw_T j hj) (by decide +kernel) (by decide +kernel) d_M_init_16 (fun q_5 H hP hD hS => ?_)
  replace hP : va_P (dC, dI) vwCl [(h0, .inr (2, [.ref q_1, .null, .null, .int 0])), (q_1, .inr (1, [.ref q1_2, .int 0])), (q1_2, .inl (cB_3, 256, .inl (fun _ => 0))), (q_5, .inr (1, [.null, .int 0]))] H := hP
  replace hD : va_D A [(h0, .inr (2, [.ref q_1, .null, .null, .int 0])), (q_1, .inr (1, [.ref q1_2, .int 0])), (q1_2, .inl (cB_3, 256, .inl (fun _ => 0))), (q_5, .inr (1, [.null, .int 0]))] := hD
  refine W.widen (k := 3) (n := 260) (by decide +kernel) (by decide +kernel) ?_
  refine lv_dup hx hb d_M_init_19 rfl ?_
  have hPc := hP.sub (ws' := [(q_5, .inr (1, [.null, .int 0]))]) [3] rfl
  have hKc := hK.sub (tys' := []) [] rfl
  have hDc := hD.sub (ws' := [(q_5, .inr (1, [.null, .int 0]))]) [3] (by decide) rfl
  have hFc := va_free (wc := [(q_5, .inr (1, [.null, .int 0]))]) hD hS hA [3] rfl
  refine va_callv (va_runI (As := []) (rest := [.ref q_5, .ref h0]) ⟨hx, hb, hml, hown, hw0⟩ (c_Text_init l dC dI H.size q_5) (cwI 0 hw0 (gd_Im wm_152) rfl rfl rfl (hw0 (.initialized R_T) wm_151) (hw0 (.methodLink R_M 11 y_T_init) wm_153) (hw0 (.instanceMethod y_T_init) wm_154) rfl (by decide +kernel) ⟨by decide +kernel, by decide +kernel⟩) (prS_E hPc hKc hDc hN) rfl rfl hl.1 rfl (lv_room (Nat.le_of_ble_eq_true rfl)) d_M_init_20 ⟨by decide +kernel, by decide +kernel⟩) hS (fun q _ h => hFc q h) hFc (fun u t H1 locs ht hvm hw hB hz1 hk1 hS => ?_)
  obtain ⟨q1_6, cB_7, hP1, hK1, hD1⟩ := hB
  rw [ht] at hP1
  have hK1 := va_K.moved hvm.symm hK1
  try dsimp only at hw
  obtain ⟨hP, hD⟩ := va_join (wr := [(h0, .inr (2, [.ref q_1, .null, .null, .int 0])), (q_1, .inr (1, [.ref q1_2, .int 0])), (q1_2, .inl (cB_3, 256, .inl (fun _ => 0)))]) (w1 := [(q_5, .inr (1, [.ref q1_6, .int 0])), (q1_6, .inl (cB_7, 256, .inl (fun _ => 0)))]) hP hD [3] [0, 1, 2] rfl rfl (by decide) (by decide) hk1 hFc hP1 hD1
  have hK := hK.app (hK1.sub (tys' := [(cB_7, .byte)]) [0] rfl)
  generalize H1 = H at hP hS ⊢
  replace hP : va_P (dC, dI) vwCl [(h0, .inr (2, [.ref q_1, .null, .null, .int 0])), (q_1, .inr (1, [.ref q1_2, .int 0])), (q1_2, .inl (cB_3, 256, .inl (fun _ => 0))), (q_5, .inr (1, [.ref q1_6, .int 0])), (q1_6, .inl (cB_7, 256, .inl (fun _ => 0)))] H := hP
  replace hD : va_D A [(h0, .inr (2, [.ref q_1, .null, .null, .int 0])), (q_1, .inr (1, [.ref q1_2, .int 0])), (q1_2, .inl (cB_3, 256, .inl (fun _ => 0))), (q_5, .inr (1, [.ref q1_6, .int 0])), (q1_6, .inl (cB_7, 256, .inl (fun _ => 0)))] := hD
  replace hK : va_K (dC, dI) vwCl [(cB_3, .byte), (cB_7, .byte)] s := hK
  refine W.widen (k := 4) (n := 516) (by decide +kernel) (by decide +kernel) ?_
  refine va_put (D := (dC, dI)) (ci := 2) (v := .ref q_5) (ty := (.object "TextKeeper$Text")) (C := R_M) (T := F_M) (N := 4) hx hb hw0 in_M ft_M tk_M nk_M hown hK hP hD hS 0 rfl rfl 1 (by decide) (hw0 (.fieldLink R_M 18 "TextKeeper$Maker" "text" "LTextKeeper$Text;") wm_156) (fun _ h9 => h9) rfl (by decide +kernel) rfl rfl (Nat.le_of_ble_eq_true rfl) d_M_init_23 (fun H locs hP hD hS => ?_)
  replace hP : va_P (dC, dI) vwCl [(h0, .inr (2, [.ref q_1, .ref q_5, .null, .int 0])), (q_1, .inr (1, [.ref q1_2, .int 0])), (q1_2, .inl (cB_3, 256, .inl (fun _ => 0))), (q_5, .inr (1, [.ref q1_6, .int 0])), (q1_6, .inl (cB_7, 256, .inl (fun _ => 0)))] H := hP
  replace hD : va_D A [(h0, .inr (2, [.ref q_1, .ref q_5, .null, .int 0])), (q_1, .inr (1, [.ref q1_2, .int 0])), (q1_2, .inl (cB_3, 256, .inl (fun _ => 0))), (q_5, .inr (1, [.ref q1_6, .int 0])), (q1_6, .inl (cB_7, 256, .inl (fun _ => 0)))] := hD
  refine lv_aload_n hx hb d_M_init_26 rfl (lv_at hl 0 rfl) ?_
  refine lv_iconst (v := 0) hx hb d_M_init_27 (by decide) ?_
  refine va_newa (atype := .byte) (ty := .byte) (N' := 0) (a0 := (0, .inl (fun _ => 0))) hx hb (hw0 (.arrayClass .byte) wm_142) rfl hK hP hD hS hA (fun _ => rfl) (by decide +kernel) (by decide +kernel) (by decide +kernel) (by decide +kernel) (by decide +kernel) d_M_init_28 (fun q_9 cA_10 H hK hP hD hS => ?_)
  replace hK : va_K (dC, dI) vwCl [(cB_3, .byte), (cB_7, .byte), (cA_10, .byte)] s := hK
  replace hP : va_P (dC, dI) vwCl [(h0, .inr (2, [.ref q_1, .ref q_5, .null, .int 0])), (q_1, .inr (1, [.ref q1_2, .int 0])), (q1_2, .inl (cB_3, 256, .inl (fun _ => 0))), (q_5, .inr (1, [.ref q1_6, .int 0])), (q1_6, .inl (cB_7, 256, .inl (fun _ => 0))), (q_9, .inl (cA_10, 0, .inl (fun _ => 0)))] H := hP
  replace hD : va_D A [(h0, .inr (2, [.ref q_1, .ref q_5, .null, .int 0])), (q_1, .inr (1, [.ref q1_2, .int 0])), (q1_2, .inl (cB_3, 256, .inl (fun _ => 0))), (q_5, .inr (1, [.ref q1_6, .int 0])), (q1_6, .inl (cB_7, 256, .inl (fun _ => 0))), (q_9, .inl (cA_10, 0, .inl (fun _ => 0)))] := hD
  refine W.widen (k := 5) (n := 516) (by decide +kernel) (by decide +kernel) ?_
  refine va_put (D := (dC, dI)) (ci := 2) (v := .ref q_9) (ty := (.array .byte)) (C := R_M) (T := F_M) (N := 4) hx hb hw0 in_M ft_M tk_M nk_M hown hK hP hD hS 0 rfl rfl 2 (by decide) (hw0 (.fieldLink R_M 21 "TextKeeper$Maker" "piece" "[B") wm_157) (fun _ h9 => h9) rfl (by decide +kernel) rfl rfl (Nat.le_of_ble_eq_true rfl) d_M_init_30 (fun H locs hP hD hS => ?_)
  replace hP : va_P (dC, dI) vwCl [(h0, .inr (2, [.ref q_1, .ref q_5, .ref q_9, .int 0])), (q_1, .inr (1, [.ref q1_2, .int 0])), (q1_2, .inl (cB_3, 256, .inl (fun _ => 0))), (q_5, .inr (1, [.ref q1_6, .int 0])), (q1_6, .inl (cB_7, 256, .inl (fun _ => 0))), (q_9, .inl (cA_10, 0, .inl (fun _ => 0)))] H := hP
  replace hD : va_D A [(h0, .inr (2, [.ref q_1, .ref q_5, .ref q_9, .int 0])), (q_1, .inr (1, [.ref q1_2, .int 0])), (q1_2, .inl (cB_3, 256, .inl (fun _ => 0))), (q_5, .inr (1, [.ref q1_6, .int 0])), (q1_6, .inl (cB_7, 256, .inl (fun _ => 0))), (q_9, .inl (cA_10, 0, .inl (fun _ => 0)))] := hD
  refine lv_aload_n hx hb d_M_init_33 rfl (lv_at hl 0 rfl) ?_
  refine lv_iconst (v := 0) hx hb d_M_init_34 (by decide) ?_
  refine va_put (D := (dC, dI)) (ci := 2) (v := .int 0) (ty := .int) (C := R_M) (T := F_M) (N := 4) hx hb hw0 in_M ft_M tk_M nk_M hown hK hP hD hS 0 rfl rfl 3 (by decide) (hw0 (.fieldLink R_M 25 "TextKeeper$Maker" "at" "I") wm_158) (fun _ h9 => h9) rfl (by decide +kernel) rfl rfl (Nat.le_of_ble_eq_true rfl) d_M_init_35 (fun H locs hP hD hS => ?_)
  replace hP : va_P (dC, dI) vwCl [(h0, .inr (2, [.ref q_1, .ref q_5, .ref q_9, .int 0])), (q_1, .inr (1, [.ref q1_2, .int 0])), (q1_2, .inl (cB_3, 256, .inl (fun _ => 0))), (q_5, .inr (1, [.ref q1_6, .int 0])), (q1_6, .inl (cB_7, 256, .inl (fun _ => 0))), (q_9, .inl (cA_10, 0, .inl (fun _ => 0)))] H := hP
  replace hD : va_D A [(h0, .inr (2, [.ref q_1, .ref q_5, .ref q_9, .int 0])), (q_1, .inr (1, [.ref q1_2, .int 0])), (q1_2, .inl (cB_3, 256, .inl (fun _ => 0))), (q_5, .inr (1, [.ref q1_6, .int 0])), (q1_6, .inl (cB_7, 256, .inl (fun _ => 0))), (q_9, .inl (cA_10, 0, .inl (fun _ => 0)))] := hD
  have hP9 := hP.sub (ws' := [(h0, .inr (2, [.ref q_1, .ref q_5, .ref q_9, .int 0]))]) [0] rfl
  have hD9 := hD.sub (ws' := [(h0, .inr (2, [.ref q_1, .ref q_5, .ref q_9, .int 0]))]) [0] (by decide) rfl
  have hK9 := hK.sub (tys' := []) [] rfl
  exact W.vret hx hb hr (fun t ht hW => ⟨⟨(), rfl, trivial, q_1, q_5, q_9, by rw [ht]; exact hP9, va_K.moved hW.alike hK9, hD9⟩, hS.F ht⟩) hS.2.2 d_M_init_38
set_option maxHeartbeats 4000000 in
set_option maxRecDepth 100000 in
theorem c_Keeper_init (l : Launch) (dC : Nat → ClassId) (dI : Nat → Nat → Nat) (sz : Nat) (h0 : Nat)  : Met l y_K_init k_K_init ({ frames := 3, cells := 16, slots := 1819, locals := 52 } : Room) (va_Pc [.ref h0] (pc_E (dC, dI) [(h0, .inr (0, [.null, .null, .null, .null, .null, .null, .null, .int 0, .int 0]))] [] sz)) (va_Qv (fun (_ : Unit) => True) (fun (_ : Unit) t => ∃ (qd : Nat) (cD : ClassId) (qb : Nat) (qy : Nat) (cB : ClassId) (qf : Nat) (qz : Nat) (qc : Nat) (qm : Nat) (qw : Nat) (qp : Nat), at_E (dC, dI) (va_A [(h0, .inr (0, [.null, .null, .null, .null, .null, .null, .null, .int 0, .int 0]))] sz) [(h0, .inr (0, [.ref qd, .ref qb, .ref qf, .ref qc, .ref qm, .ref qw, .ref qp, .int 0, .int (-1)])), (qd, .inl (cD, 8, .inr (.inr (.inr (.inr (fun _ => none)))))), (qb, .inr (1, [.ref qy, .int 0])), (qy, .inl (cB, 256, .inl (fun _ => 0))), (qf, .inr (1, [.ref qz, .int 0])), (qp, .inr (4, [.int 0, .int 0, .int 0]))] [(cD, .object R_D), (cB, .byte)] t) (va_A [(h0, .inr (0, [.null, .null, .null, .null, .null, .null, .null, .int 0, .int 0]))] sz)) 16 1819 (va_A [(h0, .inr (0, [.null, .null, .null, .null, .null, .null, .null, .int 0, .int 0]))] sz) := by
  refine Met.ofW (cc := prog_1_method_1_code) (maxL := 1) (ret := none) (by decide) rfl ?_
  intro p e s m args below meth c s₁ B hml hv
  obtain ⟨rfl, hsz, hP, hK, hD0, hN⟩ := hv
  have hx := B.exec
  have hb := B.bytes
  have hr := B.returns
  have hts := atoms_spec (ws := k_K_init) B.pre
  have hw0 : ∀ w ∈ w0, w.before _ s = true := fun w h => hts w (List.mem_cons_of_mem _ h)
  have hown : s.vm.findClass R_K = some m.cls := findClass_of_methodNamed B.named
  have hlocks := B.notSynchronized
  have hin : meth.name = "<init>" := (name_of_methodNamed B.named B.method).1
  subst hsz
  have hD := hD0.self (sz := s.heap.size)
  generalize hAe : va_A [(h0, .inr (0, [.null, .null, .null, .null, .null, .null, .null, .int 0, .int 0]))] s.heap.size = A at hD ⊢
  have hA : ∀ q : Nat, s.heap.size ≤ q → A q := fun q h => by rw [← hAe]; exact Or.inr h
  have hS : va_S A s.heap s.heap [] := va_S.rf
  have hP : va_P (dC, dI) vwCl [(h0, .inr (0, [.null, .null, .null, .null, .null, .null, .null, .int 0, .int 0]))] s.heap := hP
  have hl := lv_entry ([.ref h0]) (n := 1) (Nat.le_of_ble_eq_true rfl)
  rw [lg_entry_eq]
  generalize (lg_sl ([.ref h0]) ++ List.replicate (1 - (lg_sl ([.ref h0])).length) Slot.unset).toArray = ls at hl ⊢
  have hl : lv_has ls 1 [(0, .ref h0)] := hl
  refine lv_aload_n hx hb d_K_init_0 rfl (lv_at hl 0 rfl) ?_
  refine W.objInit hx hb hown (hw0 (.methodLink R_K 1 objectInit) wm_159) (hw0 (.instanceMethod objectInit) wm_136) (hw0 (.code objectInit ⟨#[0xb1]⟩ 1 none) wm_137) rfl (by rw [hml]; exact hl.1) rfl d_K_init_1 (Nat.le_of_ble_eq_true rfl) (Nat.le_of_ble_eq_true rfl) ?_
  refine W.eq (g2 := F0 m 4 ls []) rfl ?_
  refine lv_aload_n hx hb d_K_init_4 rfl (lv_at hl 0 rfl) ?_
  refine lv_bipush (v := 8) hx hb d_K_init_5 (by decide +kernel) ?_
  refine va_newq (N' := 8) hx hb hown (hw0 (.classLink R_K 9 R_D) wm_160) (hN.2 _ (List.mem_of_getElem? (i := 0) rfl)) hK hP hD hS hA (by decide +kernel) (by decide +kernel) (by decide +kernel) (by decide +kernel) (by decide +kernel) d_K_init_7 (fun q_1 cA_2 H hK hP hD hS => ?_)
  replace hK : va_K (dC, dI) vwCl [(cA_2, .object R_D)] s := hK
  replace hP : va_P (dC, dI) vwCl [(h0, .inr (0, [.null, .null, .null, .null, .null, .null, .null, .int 0, .int 0])), (q_1, .inl (cA_2, 8, .inr (.inr (.inr (.inr (fun _ => none))))))] H := hP
  replace hD : va_D A [(h0, .inr (0, [.null, .null, .null, .null, .null, .null, .null, .int 0, .int 0])), (q_1, .inl (cA_2, 8, .inr (.inr (.inr (.inr (fun _ => none))))))] := hD
  refine W.widen (k := 1) (n := 8) (by decide +kernel) (by decide +kernel) ?_
  refine va_putF (D := (dC, dI)) (ci := 0) (v := .ref q_1) (ty := (.array (.object "TextKeeper$Document"))) (C := R_K) (T := F_K) (N := 9) hx hb hw0 in_K ft_K tk_K nk_K hown hK hP hD hS 0 rfl rfl 0 (by decide) (hw0 (.fieldLink R_K 11 "TextKeeper" "documents" "[LTextKeeper$Document;") wm_161) (fun _ h9 => h9) rfl hin rfl (by decide +kernel) rfl rfl (Nat.le_of_ble_eq_true rfl) d_K_init_10 (fun H locs hP hD hS => ?_)
  replace hP : va_P (dC, dI) vwCl [(h0, .inr (0, [.ref q_1, .null, .null, .null, .null, .null, .null, .int 0, .int 0])), (q_1, .inl (cA_2, 8, .inr (.inr (.inr (.inr (fun _ => none))))))] H := hP
  replace hD : va_D A [(h0, .inr (0, [.ref q_1, .null, .null, .null, .null, .null, .null, .int 0, .int 0])), (q_1, .inl (cA_2, 8, .inr (.inr (.inr (.inr (fun _ => none))))))] := hD
  refine lv_aload_n hx hb d_K_init_13 rfl (lv_at hl 0 rfl) ?_
  refine va_new (ci := 1) (fs := [.null, .int 0]) (C := R_T) (T := F_T) (N := 2) hx hb hw0 in_T ft_T tk_T hown (hw0 (.classLink R_K 15 R_T) wm_162) (hw0 (.instantiable R_T 2) wm_150) (hw0 (.initialized R_T) wm_151) hK hP hD hS hA rfl (fun j hj => nw_T j hj) (by decide +kernel) (by decide +kernel) d_K_init_14 (fun q_3 H hP hD hS => ?_)
  replace hP : va_P (dC, dI) vwCl [(h0, .inr (0, [.ref q_1, .null, .null, .null, .null, .null, .null, .int 0, .int 0])), (q_1, .inl (cA_2, 8, .inr (.inr (.inr (.inr (fun _ => none)))))), (q_3, .inr (1, [.null, .int 0]))] H := hP
  replace hD : va_D A [(h0, .inr (0, [.ref q_1, .null, .null, .null, .null, .null, .null, .int 0, .int 0])), (q_1, .inl (cA_2, 8, .inr (.inr (.inr (.inr (fun _ => none)))))), (q_3, .inr (1, [.null, .int 0]))] := hD
  refine W.widen (k := 2) (n := 10) (by decide +kernel) (by decide +kernel) ?_
  refine lv_dup hx hb d_K_init_17 rfl ?_
  have hPc := hP.sub (ws' := [(q_3, .inr (1, [.null, .int 0]))]) [2] rfl
  have hKc := hK.sub (tys' := []) [] rfl
  have hDc := hD.sub (ws' := [(q_3, .inr (1, [.null, .int 0]))]) [2] (by decide) rfl
  have hFc := va_free (wc := [(q_3, .inr (1, [.null, .int 0]))]) hD hS hA [2] rfl
  refine va_callv (va_runI (As := []) (rest := [.ref q_3, .ref h0]) ⟨hx, hb, hml, hown, hw0⟩ (c_Text_init l dC dI H.size q_3) (cwI 0 hw0 (gd_Im wm_152) rfl rfl rfl (hw0 (.initialized R_T) wm_151) (hw0 (.methodLink R_K 17 y_T_init) wm_163) (hw0 (.instanceMethod y_T_init) wm_154) rfl (by decide +kernel) ⟨by decide +kernel, by decide +kernel⟩) (prS_E hPc hKc hDc hN) rfl rfl hl.1 rfl (lv_room (Nat.le_of_ble_eq_true rfl)) d_K_init_18 ⟨by decide +kernel, by decide +kernel⟩) hS (fun q _ h => hFc q h) hFc (fun u t H1 locs ht hvm hw hB hz1 hk1 hS => ?_)
  obtain ⟨q1_4, cB_5, hP1, hK1, hD1⟩ := hB
  rw [ht] at hP1
  have hK1 := va_K.moved hvm.symm hK1
  try dsimp only at hw
  obtain ⟨hP, hD⟩ := va_join (wr := [(h0, .inr (0, [.ref q_1, .null, .null, .null, .null, .null, .null, .int 0, .int 0])), (q_1, .inl (cA_2, 8, .inr (.inr (.inr (.inr (fun _ => none))))))]) (w1 := [(q_3, .inr (1, [.ref q1_4, .int 0])), (q1_4, .inl (cB_5, 256, .inl (fun _ => 0)))]) hP hD [2] [0, 1] rfl rfl (by decide) (by decide) hk1 hFc hP1 hD1
  have hK := hK.app (hK1.sub (tys' := [(cB_5, .byte)]) [0] rfl)
  generalize H1 = H at hP hS ⊢
  replace hP : va_P (dC, dI) vwCl [(h0, .inr (0, [.ref q_1, .null, .null, .null, .null, .null, .null, .int 0, .int 0])), (q_1, .inl (cA_2, 8, .inr (.inr (.inr (.inr (fun _ => none)))))), (q_3, .inr (1, [.ref q1_4, .int 0])), (q1_4, .inl (cB_5, 256, .inl (fun _ => 0)))] H := hP
  replace hD : va_D A [(h0, .inr (0, [.ref q_1, .null, .null, .null, .null, .null, .null, .int 0, .int 0])), (q_1, .inl (cA_2, 8, .inr (.inr (.inr (.inr (fun _ => none)))))), (q_3, .inr (1, [.ref q1_4, .int 0])), (q1_4, .inl (cB_5, 256, .inl (fun _ => 0)))] := hD
  replace hK : va_K (dC, dI) vwCl [(cA_2, .object R_D), (cB_5, .byte)] s := hK
  refine W.widen (k := 3) (n := 266) (by decide +kernel) (by decide +kernel) ?_
  refine va_putF (D := (dC, dI)) (ci := 0) (v := .ref q_3) (ty := (.object "TextKeeper$Text")) (C := R_K) (T := F_K) (N := 9) hx hb hw0 in_K ft_K tk_K nk_K hown hK hP hD hS 0 rfl rfl 1 (by decide) (hw0 (.fieldLink R_K 18 "TextKeeper" "buffer" "LTextKeeper$Text;") wm_164) (fun _ h9 => h9) rfl hin rfl (by decide +kernel) rfl rfl (Nat.le_of_ble_eq_true rfl) d_K_init_21 (fun H locs hP hD hS => ?_)
  replace hP : va_P (dC, dI) vwCl [(h0, .inr (0, [.ref q_1, .ref q_3, .null, .null, .null, .null, .null, .int 0, .int 0])), (q_1, .inl (cA_2, 8, .inr (.inr (.inr (.inr (fun _ => none)))))), (q_3, .inr (1, [.ref q1_4, .int 0])), (q1_4, .inl (cB_5, 256, .inl (fun _ => 0)))] H := hP
  replace hD : va_D A [(h0, .inr (0, [.ref q_1, .ref q_3, .null, .null, .null, .null, .null, .int 0, .int 0])), (q_1, .inl (cA_2, 8, .inr (.inr (.inr (.inr (fun _ => none)))))), (q_3, .inr (1, [.ref q1_4, .int 0])), (q1_4, .inl (cB_5, 256, .inl (fun _ => 0)))] := hD
  refine lv_aload_n hx hb d_K_init_24 rfl (lv_at hl 0 rfl) ?_
  refine va_new (ci := 1) (fs := [.null, .int 0]) (C := R_T) (T := F_T) (N := 2) hx hb hw0 in_T ft_T tk_T hown (hw0 (.classLink R_K 15 R_T) wm_162) (hw0 (.instantiable R_T 2) wm_150) (hw0 (.initialized R_T) wm_151) hK hP hD hS hA rfl (fun j hj => nw_T j hj) (by decide +kernel) (by decide +kernel) d_K_init_25 (fun q_7 H hP hD hS => ?_)
  replace hP : va_P (dC, dI) vwCl [(h0, .inr (0, [.ref q_1, .ref q_3, .null, .null, .null, .null, .null, .int 0, .int 0])), (q_1, .inl (cA_2, 8, .inr (.inr (.inr (.inr (fun _ => none)))))), (q_3, .inr (1, [.ref q1_4, .int 0])), (q1_4, .inl (cB_5, 256, .inl (fun _ => 0))), (q_7, .inr (1, [.null, .int 0]))] H := hP
  replace hD : va_D A [(h0, .inr (0, [.ref q_1, .ref q_3, .null, .null, .null, .null, .null, .int 0, .int 0])), (q_1, .inl (cA_2, 8, .inr (.inr (.inr (.inr (fun _ => none)))))), (q_3, .inr (1, [.ref q1_4, .int 0])), (q1_4, .inl (cB_5, 256, .inl (fun _ => 0))), (q_7, .inr (1, [.null, .int 0]))] := hD
  refine W.widen (k := 4) (n := 268) (by decide +kernel) (by decide +kernel) ?_
  refine lv_dup hx hb d_K_init_28 rfl ?_
  have hPc := hP.sub (ws' := [(q_7, .inr (1, [.null, .int 0]))]) [4] rfl
  have hKc := hK.sub (tys' := []) [] rfl
  have hDc := hD.sub (ws' := [(q_7, .inr (1, [.null, .int 0]))]) [4] (by decide) rfl
  have hFc := va_free (wc := [(q_7, .inr (1, [.null, .int 0]))]) hD hS hA [4] rfl
  refine va_callv (va_runI (As := []) (rest := [.ref q_7, .ref h0]) ⟨hx, hb, hml, hown, hw0⟩ (c_Text_init l dC dI H.size q_7) (cwI 0 hw0 (gd_Im wm_152) rfl rfl rfl (hw0 (.initialized R_T) wm_151) (hw0 (.methodLink R_K 17 y_T_init) wm_163) (hw0 (.instanceMethod y_T_init) wm_154) rfl (by decide +kernel) ⟨by decide +kernel, by decide +kernel⟩) (prS_E hPc hKc hDc hN) rfl rfl hl.1 rfl (lv_room (Nat.le_of_ble_eq_true rfl)) d_K_init_29 ⟨by decide +kernel, by decide +kernel⟩) hS (fun q _ h => hFc q h) hFc (fun u t H1 locs ht hvm hw hB hz1 hk1 hS => ?_)
  obtain ⟨q1_8, cB_9, hP1, hK1, hD1⟩ := hB
  rw [ht] at hP1
  have hK1 := va_K.moved hvm.symm hK1
  try dsimp only at hw
  obtain ⟨hP, hD⟩ := va_join (wr := [(h0, .inr (0, [.ref q_1, .ref q_3, .null, .null, .null, .null, .null, .int 0, .int 0])), (q_1, .inl (cA_2, 8, .inr (.inr (.inr (.inr (fun _ => none)))))), (q_3, .inr (1, [.ref q1_4, .int 0])), (q1_4, .inl (cB_5, 256, .inl (fun _ => 0)))]) (w1 := [(q_7, .inr (1, [.ref q1_8, .int 0])), (q1_8, .inl (cB_9, 256, .inl (fun _ => 0)))]) hP hD [4] [0, 1, 2, 3] rfl rfl (by decide) (by decide) hk1 hFc hP1 hD1
  have hK := hK.app (hK1.sub (tys' := [(cB_9, .byte)]) [0] rfl)
  generalize H1 = H at hP hS ⊢
  replace hP : va_P (dC, dI) vwCl [(h0, .inr (0, [.ref q_1, .ref q_3, .null, .null, .null, .null, .null, .int 0, .int 0])), (q_1, .inl (cA_2, 8, .inr (.inr (.inr (.inr (fun _ => none)))))), (q_3, .inr (1, [.ref q1_4, .int 0])), (q1_4, .inl (cB_5, 256, .inl (fun _ => 0))), (q_7, .inr (1, [.ref q1_8, .int 0])), (q1_8, .inl (cB_9, 256, .inl (fun _ => 0)))] H := hP
  replace hD : va_D A [(h0, .inr (0, [.ref q_1, .ref q_3, .null, .null, .null, .null, .null, .int 0, .int 0])), (q_1, .inl (cA_2, 8, .inr (.inr (.inr (.inr (fun _ => none)))))), (q_3, .inr (1, [.ref q1_4, .int 0])), (q1_4, .inl (cB_5, 256, .inl (fun _ => 0))), (q_7, .inr (1, [.ref q1_8, .int 0])), (q1_8, .inl (cB_9, 256, .inl (fun _ => 0)))] := hD
  replace hK : va_K (dC, dI) vwCl [(cA_2, .object R_D), (cB_5, .byte), (cB_9, .byte)] s := hK
  refine W.widen (k := 5) (n := 524) (by decide +kernel) (by decide +kernel) ?_
  refine va_putF (D := (dC, dI)) (ci := 0) (v := .ref q_7) (ty := (.object "TextKeeper$Text")) (C := R_K) (T := F_K) (N := 9) hx hb hw0 in_K ft_K tk_K nk_K hown hK hP hD hS 0 rfl rfl 2 (by decide) (hw0 (.fieldLink R_K 22 "TextKeeper" "fetched" "LTextKeeper$Text;") wm_165) (fun _ h9 => h9) rfl hin rfl (by decide +kernel) rfl rfl (Nat.le_of_ble_eq_true rfl) d_K_init_32 (fun H locs hP hD hS => ?_)
  replace hP : va_P (dC, dI) vwCl [(h0, .inr (0, [.ref q_1, .ref q_3, .ref q_7, .null, .null, .null, .null, .int 0, .int 0])), (q_1, .inl (cA_2, 8, .inr (.inr (.inr (.inr (fun _ => none)))))), (q_3, .inr (1, [.ref q1_4, .int 0])), (q1_4, .inl (cB_5, 256, .inl (fun _ => 0))), (q_7, .inr (1, [.ref q1_8, .int 0])), (q1_8, .inl (cB_9, 256, .inl (fun _ => 0)))] H := hP
  replace hD : va_D A [(h0, .inr (0, [.ref q_1, .ref q_3, .ref q_7, .null, .null, .null, .null, .int 0, .int 0])), (q_1, .inl (cA_2, 8, .inr (.inr (.inr (.inr (fun _ => none)))))), (q_3, .inr (1, [.ref q1_4, .int 0])), (q1_4, .inl (cB_5, 256, .inl (fun _ => 0))), (q_7, .inr (1, [.ref q1_8, .int 0])), (q1_8, .inl (cB_9, 256, .inl (fun _ => 0)))] := hD
  refine lv_aload_n hx hb d_K_init_35 rfl (lv_at hl 0 rfl) ?_
  refine va_new (ci := 1) (fs := [.null, .int 0]) (C := R_T) (T := F_T) (N := 2) hx hb hw0 in_T ft_T tk_T hown (hw0 (.classLink R_K 15 R_T) wm_162) (hw0 (.instantiable R_T 2) wm_150) (hw0 (.initialized R_T) wm_151) hK hP hD hS hA rfl (fun j hj => nw_T j hj) (by decide +kernel) (by decide +kernel) d_K_init_36 (fun q_11 H hP hD hS => ?_)
  replace hP : va_P (dC, dI) vwCl [(h0, .inr (0, [.ref q_1, .ref q_3, .ref q_7, .null, .null, .null, .null, .int 0, .int 0])), (q_1, .inl (cA_2, 8, .inr (.inr (.inr (.inr (fun _ => none)))))), (q_3, .inr (1, [.ref q1_4, .int 0])), (q1_4, .inl (cB_5, 256, .inl (fun _ => 0))), (q_7, .inr (1, [.ref q1_8, .int 0])), (q1_8, .inl (cB_9, 256, .inl (fun _ => 0))), (q_11, .inr (1, [.null, .int 0]))] H := hP
  replace hD : va_D A [(h0, .inr (0, [.ref q_1, .ref q_3, .ref q_7, .null, .null, .null, .null, .int 0, .int 0])), (q_1, .inl (cA_2, 8, .inr (.inr (.inr (.inr (fun _ => none)))))), (q_3, .inr (1, [.ref q1_4, .int 0])), (q1_4, .inl (cB_5, 256, .inl (fun _ => 0))), (q_7, .inr (1, [.ref q1_8, .int 0])), (q1_8, .inl (cB_9, 256, .inl (fun _ => 0))), (q_11, .inr (1, [.null, .int 0]))] := hD
  refine W.widen (k := 6) (n := 526) (by decide +kernel) (by decide +kernel) ?_
  refine lv_dup hx hb d_K_init_39 rfl ?_
  have hPc := hP.sub (ws' := [(q_11, .inr (1, [.null, .int 0]))]) [6] rfl
  have hKc := hK.sub (tys' := []) [] rfl
  have hDc := hD.sub (ws' := [(q_11, .inr (1, [.null, .int 0]))]) [6] (by decide) rfl
  have hFc := va_free (wc := [(q_11, .inr (1, [.null, .int 0]))]) hD hS hA [6] rfl
  refine va_callv (va_runI (As := []) (rest := [.ref q_11, .ref h0]) ⟨hx, hb, hml, hown, hw0⟩ (c_Text_init l dC dI H.size q_11) (cwI 0 hw0 (gd_Im wm_152) rfl rfl rfl (hw0 (.initialized R_T) wm_151) (hw0 (.methodLink R_K 17 y_T_init) wm_163) (hw0 (.instanceMethod y_T_init) wm_154) rfl (by decide +kernel) ⟨by decide +kernel, by decide +kernel⟩) (prS_E hPc hKc hDc hN) rfl rfl hl.1 rfl (lv_room (Nat.le_of_ble_eq_true rfl)) d_K_init_40 ⟨by decide +kernel, by decide +kernel⟩) hS (fun q _ h => hFc q h) hFc (fun u t H1 locs ht hvm hw hB hz1 hk1 hS => ?_)
  obtain ⟨q1_12, cB_13, hP1, hK1, hD1⟩ := hB
  rw [ht] at hP1
  have hK1 := va_K.moved hvm.symm hK1
  try dsimp only at hw
  obtain ⟨hP, hD⟩ := va_join (wr := [(h0, .inr (0, [.ref q_1, .ref q_3, .ref q_7, .null, .null, .null, .null, .int 0, .int 0])), (q_1, .inl (cA_2, 8, .inr (.inr (.inr (.inr (fun _ => none)))))), (q_3, .inr (1, [.ref q1_4, .int 0])), (q1_4, .inl (cB_5, 256, .inl (fun _ => 0))), (q_7, .inr (1, [.ref q1_8, .int 0])), (q1_8, .inl (cB_9, 256, .inl (fun _ => 0)))]) (w1 := [(q_11, .inr (1, [.ref q1_12, .int 0])), (q1_12, .inl (cB_13, 256, .inl (fun _ => 0)))]) hP hD [6] [0, 1, 2, 3, 4, 5] rfl rfl (by decide) (by decide) hk1 hFc hP1 hD1
  have hK := hK.app (hK1.sub (tys' := [(cB_13, .byte)]) [0] rfl)
  generalize H1 = H at hP hS ⊢
  replace hP : va_P (dC, dI) vwCl [(h0, .inr (0, [.ref q_1, .ref q_3, .ref q_7, .null, .null, .null, .null, .int 0, .int 0])), (q_1, .inl (cA_2, 8, .inr (.inr (.inr (.inr (fun _ => none)))))), (q_3, .inr (1, [.ref q1_4, .int 0])), (q1_4, .inl (cB_5, 256, .inl (fun _ => 0))), (q_7, .inr (1, [.ref q1_8, .int 0])), (q1_8, .inl (cB_9, 256, .inl (fun _ => 0))), (q_11, .inr (1, [.ref q1_12, .int 0])), (q1_12, .inl (cB_13, 256, .inl (fun _ => 0)))] H := hP
  replace hD : va_D A [(h0, .inr (0, [.ref q_1, .ref q_3, .ref q_7, .null, .null, .null, .null, .int 0, .int 0])), (q_1, .inl (cA_2, 8, .inr (.inr (.inr (.inr (fun _ => none)))))), (q_3, .inr (1, [.ref q1_4, .int 0])), (q1_4, .inl (cB_5, 256, .inl (fun _ => 0))), (q_7, .inr (1, [.ref q1_8, .int 0])), (q1_8, .inl (cB_9, 256, .inl (fun _ => 0))), (q_11, .inr (1, [.ref q1_12, .int 0])), (q1_12, .inl (cB_13, 256, .inl (fun _ => 0)))] := hD
  replace hK : va_K (dC, dI) vwCl [(cA_2, .object R_D), (cB_5, .byte), (cB_9, .byte), (cB_13, .byte)] s := hK
  refine W.widen (k := 7) (n := 782) (by decide +kernel) (by decide +kernel) ?_
  refine va_putF (D := (dC, dI)) (ci := 0) (v := .ref q_11) (ty := (.object "TextKeeper$Text")) (C := R_K) (T := F_K) (N := 9) hx hb hw0 in_K ft_K tk_K nk_K hown hK hP hD hS 0 rfl rfl 3 (by decide) (hw0 (.fieldLink R_K 25 "TextKeeper" "compared" "LTextKeeper$Text;") wm_166) (fun _ h9 => h9) rfl hin rfl (by decide +kernel) rfl rfl (Nat.le_of_ble_eq_true rfl) d_K_init_43 (fun H locs hP hD hS => ?_)
  replace hP : va_P (dC, dI) vwCl [(h0, .inr (0, [.ref q_1, .ref q_3, .ref q_7, .ref q_11, .null, .null, .null, .int 0, .int 0])), (q_1, .inl (cA_2, 8, .inr (.inr (.inr (.inr (fun _ => none)))))), (q_3, .inr (1, [.ref q1_4, .int 0])), (q1_4, .inl (cB_5, 256, .inl (fun _ => 0))), (q_7, .inr (1, [.ref q1_8, .int 0])), (q1_8, .inl (cB_9, 256, .inl (fun _ => 0))), (q_11, .inr (1, [.ref q1_12, .int 0])), (q1_12, .inl (cB_13, 256, .inl (fun _ => 0)))] H := hP
  replace hD : va_D A [(h0, .inr (0, [.ref q_1, .ref q_3, .ref q_7, .ref q_11, .null, .null, .null, .int 0, .int 0])), (q_1, .inl (cA_2, 8, .inr (.inr (.inr (.inr (fun _ => none)))))), (q_3, .inr (1, [.ref q1_4, .int 0])), (q1_4, .inl (cB_5, 256, .inl (fun _ => 0))), (q_7, .inr (1, [.ref q1_8, .int 0])), (q1_8, .inl (cB_9, 256, .inl (fun _ => 0))), (q_11, .inr (1, [.ref q1_12, .int 0])), (q1_12, .inl (cB_13, 256, .inl (fun _ => 0)))] := hD
  refine lv_aload_n hx hb d_K_init_46 rfl (lv_at hl 0 rfl) ?_
  refine va_new (ci := 2) (fs := [.null, .null, .null, .int 0]) (C := R_M) (T := F_M) (N := 4) hx hb hw0 in_M ft_M tk_M hown (hw0 (.classLink R_K 28 R_M) wm_167) (hw0 (.instantiable R_M 4) wm_168) (hw0 (.initialized R_M) wm_169) hK hP hD hS hA rfl (fun j hj => nw_M j hj) (by decide +kernel) (by decide +kernel) d_K_init_47 (fun q_15 H hP hD hS => ?_)
  replace hP : va_P (dC, dI) vwCl [(h0, .inr (0, [.ref q_1, .ref q_3, .ref q_7, .ref q_11, .null, .null, .null, .int 0, .int 0])), (q_1, .inl (cA_2, 8, .inr (.inr (.inr (.inr (fun _ => none)))))), (q_3, .inr (1, [.ref q1_4, .int 0])), (q1_4, .inl (cB_5, 256, .inl (fun _ => 0))), (q_7, .inr (1, [.ref q1_8, .int 0])), (q1_8, .inl (cB_9, 256, .inl (fun _ => 0))), (q_11, .inr (1, [.ref q1_12, .int 0])), (q1_12, .inl (cB_13, 256, .inl (fun _ => 0))), (q_15, .inr (2, [.null, .null, .null, .int 0]))] H := hP
  replace hD : va_D A [(h0, .inr (0, [.ref q_1, .ref q_3, .ref q_7, .ref q_11, .null, .null, .null, .int 0, .int 0])), (q_1, .inl (cA_2, 8, .inr (.inr (.inr (.inr (fun _ => none)))))), (q_3, .inr (1, [.ref q1_4, .int 0])), (q1_4, .inl (cB_5, 256, .inl (fun _ => 0))), (q_7, .inr (1, [.ref q1_8, .int 0])), (q1_8, .inl (cB_9, 256, .inl (fun _ => 0))), (q_11, .inr (1, [.ref q1_12, .int 0])), (q1_12, .inl (cB_13, 256, .inl (fun _ => 0))), (q_15, .inr (2, [.null, .null, .null, .int 0]))] := hD
  refine W.widen (k := 8) (n := 786) (by decide +kernel) (by decide +kernel) ?_
  refine lv_dup hx hb d_K_init_50 rfl ?_
  have hPc := hP.sub (ws' := [(q_15, .inr (2, [.null, .null, .null, .int 0]))]) [8] rfl
  have hKc := hK.sub (tys' := []) [] rfl
  have hDc := hD.sub (ws' := [(q_15, .inr (2, [.null, .null, .null, .int 0]))]) [8] (by decide) rfl
  have hFc := va_free (wc := [(q_15, .inr (2, [.null, .null, .null, .int 0]))]) hD hS hA [8] rfl
  refine va_callv (va_runI (As := []) (rest := [.ref q_15, .ref h0]) ⟨hx, hb, hml, hown, hw0⟩ (c_Maker_init l dC dI H.size q_15) (cwI 0 hw0 (gd_Im wm_170) rfl rfl rfl (hw0 (.initialized R_M) wm_169) (hw0 (.methodLink R_K 30 y_M_init) wm_171) (hw0 (.instanceMethod y_M_init) wm_172) rfl (by decide +kernel) ⟨by decide +kernel, by decide +kernel⟩) (prS_E hPc hKc hDc hN) rfl rfl hl.1 rfl (lv_room (Nat.le_of_ble_eq_true rfl)) d_K_init_51 ⟨by decide +kernel, by decide +kernel⟩) hS (fun q _ h => hFc q h) hFc (fun u t H1 locs ht hvm hw hB hz1 hk1 hS => ?_)
  obtain ⟨q1_16, q2_17, q3_18, hP1, hK1, hD1⟩ := hB
  rw [ht] at hP1
  have hK1 := va_K.moved hvm.symm hK1
  try dsimp only at hw
  obtain ⟨hP, hD⟩ := va_join (wr := [(h0, .inr (0, [.ref q_1, .ref q_3, .ref q_7, .ref q_11, .null, .null, .null, .int 0, .int 0])), (q_1, .inl (cA_2, 8, .inr (.inr (.inr (.inr (fun _ => none)))))), (q_3, .inr (1, [.ref q1_4, .int 0])), (q1_4, .inl (cB_5, 256, .inl (fun _ => 0))), (q_7, .inr (1, [.ref q1_8, .int 0])), (q1_8, .inl (cB_9, 256, .inl (fun _ => 0))), (q_11, .inr (1, [.ref q1_12, .int 0])), (q1_12, .inl (cB_13, 256, .inl (fun _ => 0)))]) (w1 := [(q_15, .inr (2, [.ref q1_16, .ref q2_17, .ref q3_18, .int 0]))]) hP hD [8] [0, 1, 2, 3, 4, 5, 6, 7] rfl rfl (by decide) (by decide) hk1 hFc hP1 hD1
  generalize H1 = H at hP hS ⊢
  replace hP : va_P (dC, dI) vwCl [(h0, .inr (0, [.ref q_1, .ref q_3, .ref q_7, .ref q_11, .null, .null, .null, .int 0, .int 0])), (q_1, .inl (cA_2, 8, .inr (.inr (.inr (.inr (fun _ => none)))))), (q_3, .inr (1, [.ref q1_4, .int 0])), (q1_4, .inl (cB_5, 256, .inl (fun _ => 0))), (q_7, .inr (1, [.ref q1_8, .int 0])), (q1_8, .inl (cB_9, 256, .inl (fun _ => 0))), (q_11, .inr (1, [.ref q1_12, .int 0])), (q1_12, .inl (cB_13, 256, .inl (fun _ => 0))), (q_15, .inr (2, [.ref q1_16, .ref q2_17, .ref q3_18, .int 0]))] H := hP
  replace hD : va_D A [(h0, .inr (0, [.ref q_1, .ref q_3, .ref q_7, .ref q_11, .null, .null, .null, .int 0, .int 0])), (q_1, .inl (cA_2, 8, .inr (.inr (.inr (.inr (fun _ => none)))))), (q_3, .inr (1, [.ref q1_4, .int 0])), (q1_4, .inl (cB_5, 256, .inl (fun _ => 0))), (q_7, .inr (1, [.ref q1_8, .int 0])), (q1_8, .inl (cB_9, 256, .inl (fun _ => 0))), (q_11, .inr (1, [.ref q1_12, .int 0])), (q1_12, .inl (cB_13, 256, .inl (fun _ => 0))), (q_15, .inr (2, [.ref q1_16, .ref q2_17, .ref q3_18, .int 0]))] := hD
  replace hK : va_K (dC, dI) vwCl [(cA_2, .object R_D), (cB_5, .byte), (cB_9, .byte), (cB_13, .byte)] s := hK
  refine W.widen (k := 13) (n := 1302) (by decide +kernel) (by decide +kernel) ?_
  refine va_putF (D := (dC, dI)) (ci := 0) (v := .ref q_15) (ty := (.object "TextKeeper$Maker")) (C := R_K) (T := F_K) (N := 9) hx hb hw0 in_K ft_K tk_K nk_K hown hK hP hD hS 0 rfl rfl 4 (by decide) (hw0 (.fieldLink R_K 31 "TextKeeper" "maker" "LTextKeeper$Maker;") wm_173) (fun _ h9 => h9) rfl hin rfl (by decide +kernel) rfl rfl (Nat.le_of_ble_eq_true rfl) d_K_init_54 (fun H locs hP hD hS => ?_)
  replace hP : va_P (dC, dI) vwCl [(h0, .inr (0, [.ref q_1, .ref q_3, .ref q_7, .ref q_11, .ref q_15, .null, .null, .int 0, .int 0])), (q_1, .inl (cA_2, 8, .inr (.inr (.inr (.inr (fun _ => none)))))), (q_3, .inr (1, [.ref q1_4, .int 0])), (q1_4, .inl (cB_5, 256, .inl (fun _ => 0))), (q_7, .inr (1, [.ref q1_8, .int 0])), (q1_8, .inl (cB_9, 256, .inl (fun _ => 0))), (q_11, .inr (1, [.ref q1_12, .int 0])), (q1_12, .inl (cB_13, 256, .inl (fun _ => 0))), (q_15, .inr (2, [.ref q1_16, .ref q2_17, .ref q3_18, .int 0]))] H := hP
  replace hD : va_D A [(h0, .inr (0, [.ref q_1, .ref q_3, .ref q_7, .ref q_11, .ref q_15, .null, .null, .int 0, .int 0])), (q_1, .inl (cA_2, 8, .inr (.inr (.inr (.inr (fun _ => none)))))), (q_3, .inr (1, [.ref q1_4, .int 0])), (q1_4, .inl (cB_5, 256, .inl (fun _ => 0))), (q_7, .inr (1, [.ref q1_8, .int 0])), (q1_8, .inl (cB_9, 256, .inl (fun _ => 0))), (q_11, .inr (1, [.ref q1_12, .int 0])), (q1_12, .inl (cB_13, 256, .inl (fun _ => 0))), (q_15, .inr (2, [.ref q1_16, .ref q2_17, .ref q3_18, .int 0]))] := hD
  refine lv_aload_n hx hb d_K_init_57 rfl (lv_at hl 0 rfl) ?_
  refine va_new (ci := 3) (fs := [.null, .int 0]) (C := R_W) (T := F_W) (N := 2) hx hb hw0 in_W ft_W tk_W hown (hw0 (.classLink R_K 35 R_W) wm_174) (hw0 (.instantiable R_W 2) wm_175) (hw0 (.initialized R_W) wm_176) hK hP hD hS hA rfl (fun j hj => nw_W j hj) (by decide +kernel) (by decide +kernel) d_K_init_58 (fun q_20 H hP hD hS => ?_)
  replace hP : va_P (dC, dI) vwCl [(h0, .inr (0, [.ref q_1, .ref q_3, .ref q_7, .ref q_11, .ref q_15, .null, .null, .int 0, .int 0])), (q_1, .inl (cA_2, 8, .inr (.inr (.inr (.inr (fun _ => none)))))), (q_3, .inr (1, [.ref q1_4, .int 0])), (q1_4, .inl (cB_5, 256, .inl (fun _ => 0))), (q_7, .inr (1, [.ref q1_8, .int 0])), (q1_8, .inl (cB_9, 256, .inl (fun _ => 0))), (q_11, .inr (1, [.ref q1_12, .int 0])), (q1_12, .inl (cB_13, 256, .inl (fun _ => 0))), (q_15, .inr (2, [.ref q1_16, .ref q2_17, .ref q3_18, .int 0])), (q_20, .inr (3, [.null, .int 0]))] H := hP
  replace hD : va_D A [(h0, .inr (0, [.ref q_1, .ref q_3, .ref q_7, .ref q_11, .ref q_15, .null, .null, .int 0, .int 0])), (q_1, .inl (cA_2, 8, .inr (.inr (.inr (.inr (fun _ => none)))))), (q_3, .inr (1, [.ref q1_4, .int 0])), (q1_4, .inl (cB_5, 256, .inl (fun _ => 0))), (q_7, .inr (1, [.ref q1_8, .int 0])), (q1_8, .inl (cB_9, 256, .inl (fun _ => 0))), (q_11, .inr (1, [.ref q1_12, .int 0])), (q1_12, .inl (cB_13, 256, .inl (fun _ => 0))), (q_15, .inr (2, [.ref q1_16, .ref q2_17, .ref q3_18, .int 0])), (q_20, .inr (3, [.null, .int 0]))] := hD
  refine W.widen (k := 14) (n := 1304) (by decide +kernel) (by decide +kernel) ?_
  refine lv_dup hx hb d_K_init_61 rfl ?_
  have hPc := hP.sub (ws' := [(q_20, .inr (3, [.null, .int 0]))]) [9] rfl
  have hKc := hK.sub (tys' := []) [] rfl
  have hDc := hD.sub (ws' := [(q_20, .inr (3, [.null, .int 0]))]) [9] (by decide) rfl
  have hFc := va_free (wc := [(q_20, .inr (3, [.null, .int 0]))]) hD hS hA [9] rfl
  refine va_callv (va_runI (As := []) (rest := [.ref q_20, .ref h0]) ⟨hx, hb, hml, hown, hw0⟩ (c_PieceWriter_init l dC dI H.size q_20) (cwI 0 hw0 (gd_Im wm_177) rfl rfl rfl (hw0 (.initialized R_W) wm_176) (hw0 (.methodLink R_K 37 y_W_init) wm_178) (hw0 (.instanceMethod y_W_init) wm_179) rfl (by decide +kernel) ⟨by decide +kernel, by decide +kernel⟩) (prS_E hPc hKc hDc hN) rfl rfl hl.1 rfl (lv_room (Nat.le_of_ble_eq_true rfl)) d_K_init_62 ⟨by decide +kernel, by decide +kernel⟩) hS (fun q _ h => hFc q h) hFc (fun u t H1 locs ht hvm hw hB hz1 hk1 hS => ?_)
  obtain ⟨q1_21, hP1, hK1, hD1⟩ := hB
  rw [ht] at hP1
  have hK1 := va_K.moved hvm.symm hK1
  try dsimp only at hw
  obtain ⟨hP, hD⟩ := va_join (wr := [(h0, .inr (0, [.ref q_1, .ref q_3, .ref q_7, .ref q_11, .ref q_15, .null, .null, .int 0, .int 0])), (q_1, .inl (cA_2, 8, .inr (.inr (.inr (.inr (fun _ => none)))))), (q_3, .inr (1, [.ref q1_4, .int 0])), (q1_4, .inl (cB_5, 256, .inl (fun _ => 0))), (q_7, .inr (1, [.ref q1_8, .int 0])), (q1_8, .inl (cB_9, 256, .inl (fun _ => 0))), (q_11, .inr (1, [.ref q1_12, .int 0])), (q1_12, .inl (cB_13, 256, .inl (fun _ => 0))), (q_15, .inr (2, [.ref q1_16, .ref q2_17, .ref q3_18, .int 0]))]) (w1 := [(q_20, .inr (3, [.ref q1_21, .int 0]))]) hP hD [9] [0, 1, 2, 3, 4, 5, 6, 7, 8] rfl rfl (by decide) (by decide) hk1 hFc hP1 hD1
  generalize H1 = H at hP hS ⊢
  replace hP : va_P (dC, dI) vwCl [(h0, .inr (0, [.ref q_1, .ref q_3, .ref q_7, .ref q_11, .ref q_15, .null, .null, .int 0, .int 0])), (q_1, .inl (cA_2, 8, .inr (.inr (.inr (.inr (fun _ => none)))))), (q_3, .inr (1, [.ref q1_4, .int 0])), (q1_4, .inl (cB_5, 256, .inl (fun _ => 0))), (q_7, .inr (1, [.ref q1_8, .int 0])), (q1_8, .inl (cB_9, 256, .inl (fun _ => 0))), (q_11, .inr (1, [.ref q1_12, .int 0])), (q1_12, .inl (cB_13, 256, .inl (fun _ => 0))), (q_15, .inr (2, [.ref q1_16, .ref q2_17, .ref q3_18, .int 0])), (q_20, .inr (3, [.ref q1_21, .int 0]))] H := hP
  replace hD : va_D A [(h0, .inr (0, [.ref q_1, .ref q_3, .ref q_7, .ref q_11, .ref q_15, .null, .null, .int 0, .int 0])), (q_1, .inl (cA_2, 8, .inr (.inr (.inr (.inr (fun _ => none)))))), (q_3, .inr (1, [.ref q1_4, .int 0])), (q1_4, .inl (cB_5, 256, .inl (fun _ => 0))), (q_7, .inr (1, [.ref q1_8, .int 0])), (q1_8, .inl (cB_9, 256, .inl (fun _ => 0))), (q_11, .inr (1, [.ref q1_12, .int 0])), (q1_12, .inl (cB_13, 256, .inl (fun _ => 0))), (q_15, .inr (2, [.ref q1_16, .ref q2_17, .ref q3_18, .int 0])), (q_20, .inr (3, [.ref q1_21, .int 0]))] := hD
  replace hK : va_K (dC, dI) vwCl [(cA_2, .object R_D), (cB_5, .byte), (cB_9, .byte), (cB_13, .byte)] s := hK
  refine W.widen (k := 15) (n := 1816) (by decide +kernel) (by decide +kernel) ?_
  refine va_putF (D := (dC, dI)) (ci := 0) (v := .ref q_20) (ty := (.object "TextKeeper$PieceWriter")) (C := R_K) (T := F_K) (N := 9) hx hb hw0 in_K ft_K tk_K nk_K hown hK hP hD hS 0 rfl rfl 5 (by decide) (hw0 (.fieldLink R_K 38 "TextKeeper" "writer" "LTextKeeper$PieceWriter;") wm_180) (fun _ h9 => h9) rfl hin rfl (by decide +kernel) rfl rfl (Nat.le_of_ble_eq_true rfl) d_K_init_65 (fun H locs hP hD hS => ?_)
  replace hP : va_P (dC, dI) vwCl [(h0, .inr (0, [.ref q_1, .ref q_3, .ref q_7, .ref q_11, .ref q_15, .ref q_20, .null, .int 0, .int 0])), (q_1, .inl (cA_2, 8, .inr (.inr (.inr (.inr (fun _ => none)))))), (q_3, .inr (1, [.ref q1_4, .int 0])), (q1_4, .inl (cB_5, 256, .inl (fun _ => 0))), (q_7, .inr (1, [.ref q1_8, .int 0])), (q1_8, .inl (cB_9, 256, .inl (fun _ => 0))), (q_11, .inr (1, [.ref q1_12, .int 0])), (q1_12, .inl (cB_13, 256, .inl (fun _ => 0))), (q_15, .inr (2, [.ref q1_16, .ref q2_17, .ref q3_18, .int 0])), (q_20, .inr (3, [.ref q1_21, .int 0]))] H := hP
  replace hD : va_D A [(h0, .inr (0, [.ref q_1, .ref q_3, .ref q_7, .ref q_11, .ref q_15, .ref q_20, .null, .int 0, .int 0])), (q_1, .inl (cA_2, 8, .inr (.inr (.inr (.inr (fun _ => none)))))), (q_3, .inr (1, [.ref q1_4, .int 0])), (q1_4, .inl (cB_5, 256, .inl (fun _ => 0))), (q_7, .inr (1, [.ref q1_8, .int 0])), (q1_8, .inl (cB_9, 256, .inl (fun _ => 0))), (q_11, .inr (1, [.ref q1_12, .int 0])), (q1_12, .inl (cB_13, 256, .inl (fun _ => 0))), (q_15, .inr (2, [.ref q1_16, .ref q2_17, .ref q3_18, .int 0])), (q_20, .inr (3, [.ref q1_21, .int 0]))] := hD
  refine lv_aload_n hx hb d_K_init_68 rfl (lv_at hl 0 rfl) ?_
  refine va_new (ci := 4) (fs := [.int 0, .int 0, .int 0]) (C := R_P) (T := F_P) (N := 3) hx hb hw0 in_P ft_P tk_P hown (hw0 (.classLink R_K 42 R_P) wm_181) (hw0 (.instantiable R_P 3) wm_182) (hw0 (.initialized R_P) wm_183) hK hP hD hS hA rfl (fun j hj => nw_P j hj) (by decide +kernel) (by decide +kernel) d_K_init_69 (fun q_23 H hP hD hS => ?_)
  replace hP : va_P (dC, dI) vwCl [(h0, .inr (0, [.ref q_1, .ref q_3, .ref q_7, .ref q_11, .ref q_15, .ref q_20, .null, .int 0, .int 0])), (q_1, .inl (cA_2, 8, .inr (.inr (.inr (.inr (fun _ => none)))))), (q_3, .inr (1, [.ref q1_4, .int 0])), (q1_4, .inl (cB_5, 256, .inl (fun _ => 0))), (q_7, .inr (1, [.ref q1_8, .int 0])), (q1_8, .inl (cB_9, 256, .inl (fun _ => 0))), (q_11, .inr (1, [.ref q1_12, .int 0])), (q1_12, .inl (cB_13, 256, .inl (fun _ => 0))), (q_15, .inr (2, [.ref q1_16, .ref q2_17, .ref q3_18, .int 0])), (q_20, .inr (3, [.ref q1_21, .int 0])), (q_23, .inr (4, [.int 0, .int 0, .int 0]))] H := hP
  replace hD : va_D A [(h0, .inr (0, [.ref q_1, .ref q_3, .ref q_7, .ref q_11, .ref q_15, .ref q_20, .null, .int 0, .int 0])), (q_1, .inl (cA_2, 8, .inr (.inr (.inr (.inr (fun _ => none)))))), (q_3, .inr (1, [.ref q1_4, .int 0])), (q1_4, .inl (cB_5, 256, .inl (fun _ => 0))), (q_7, .inr (1, [.ref q1_8, .int 0])), (q1_8, .inl (cB_9, 256, .inl (fun _ => 0))), (q_11, .inr (1, [.ref q1_12, .int 0])), (q1_12, .inl (cB_13, 256, .inl (fun _ => 0))), (q_15, .inr (2, [.ref q1_16, .ref q2_17, .ref q3_18, .int 0])), (q_20, .inr (3, [.ref q1_21, .int 0])), (q_23, .inr (4, [.int 0, .int 0, .int 0]))] := hD
  refine W.widen (k := 16) (n := 1819) (by decide +kernel) (by decide +kernel) ?_
  refine lv_dup hx hb d_K_init_72 rfl ?_
  have hPc := hP.sub (ws' := [(q_23, .inr (4, [.int 0, .int 0, .int 0]))]) [10] rfl
  have hKc := hK.sub (tys' := []) [] rfl
  have hDc := hD.sub (ws' := [(q_23, .inr (4, [.int 0, .int 0, .int 0]))]) [10] (by decide) rfl
  have hFc := va_free (wc := [(q_23, .inr (4, [.int 0, .int 0, .int 0]))]) hD hS hA [10] rfl
  refine va_callv (va_runI (As := []) (rest := [.ref q_23, .ref h0]) ⟨hx, hb, hml, hown, hw0⟩ (c_Power_init l dC dI H.size q_23) (cwI 0 hw0 (gd_Im wm_184) rfl rfl rfl (hw0 (.initialized R_P) wm_183) (hw0 (.methodLink R_K 44 y_P_init) wm_185) (hw0 (.instanceMethod y_P_init) wm_186) rfl (by decide +kernel) ⟨by decide +kernel, by decide +kernel⟩) (prS_E hPc hKc hDc hN) rfl rfl hl.1 rfl (lv_room (Nat.le_of_ble_eq_true rfl)) d_K_init_73 ⟨by decide +kernel, by decide +kernel⟩) hS (fun q _ h => hFc q h) hFc (fun u t H1 locs ht hvm hw hB hz1 hk1 hS => ?_)
  obtain ⟨hP1, hK1, hD1⟩ := hB
  rw [ht] at hP1
  have hK1 := va_K.moved hvm.symm hK1
  try dsimp only at hw
  obtain ⟨hP, hD⟩ := va_join (wr := [(h0, .inr (0, [.ref q_1, .ref q_3, .ref q_7, .ref q_11, .ref q_15, .ref q_20, .null, .int 0, .int 0])), (q_1, .inl (cA_2, 8, .inr (.inr (.inr (.inr (fun _ => none)))))), (q_3, .inr (1, [.ref q1_4, .int 0])), (q1_4, .inl (cB_5, 256, .inl (fun _ => 0))), (q_7, .inr (1, [.ref q1_8, .int 0])), (q1_8, .inl (cB_9, 256, .inl (fun _ => 0))), (q_11, .inr (1, [.ref q1_12, .int 0])), (q1_12, .inl (cB_13, 256, .inl (fun _ => 0))), (q_15, .inr (2, [.ref q1_16, .ref q2_17, .ref q3_18, .int 0])), (q_20, .inr (3, [.ref q1_21, .int 0]))]) (w1 := [(q_23, .inr (4, [.int 0, .int 0, .int 0]))]) hP hD [10] [0, 1, 2, 3, 4, 5, 6, 7, 8, 9] rfl rfl (by decide) (by decide) hk1 hFc hP1 hD1
  generalize H1 = H at hP hS ⊢
  replace hP : va_P (dC, dI) vwCl [(h0, .inr (0, [.ref q_1, .ref q_3, .ref q_7, .ref q_11, .ref q_15, .ref q_20, .null, .int 0, .int 0])), (q_1, .inl (cA_2, 8, .inr (.inr (.inr (.inr (fun _ => none)))))), (q_3, .inr (1, [.ref q1_4, .int 0])), (q1_4, .inl (cB_5, 256, .inl (fun _ => 0))), (q_7, .inr (1, [.ref q1_8, .int 0])), (q1_8, .inl (cB_9, 256, .inl (fun _ => 0))), (q_11, .inr (1, [.ref q1_12, .int 0])), (q1_12, .inl (cB_13, 256, .inl (fun _ => 0))), (q_15, .inr (2, [.ref q1_16, .ref q2_17, .ref q3_18, .int 0])), (q_20, .inr (3, [.ref q1_21, .int 0])), (q_23, .inr (4, [.int 0, .int 0, .int 0]))] H := hP
  replace hD : va_D A [(h0, .inr (0, [.ref q_1, .ref q_3, .ref q_7, .ref q_11, .ref q_15, .ref q_20, .null, .int 0, .int 0])), (q_1, .inl (cA_2, 8, .inr (.inr (.inr (.inr (fun _ => none)))))), (q_3, .inr (1, [.ref q1_4, .int 0])), (q1_4, .inl (cB_5, 256, .inl (fun _ => 0))), (q_7, .inr (1, [.ref q1_8, .int 0])), (q1_8, .inl (cB_9, 256, .inl (fun _ => 0))), (q_11, .inr (1, [.ref q1_12, .int 0])), (q1_12, .inl (cB_13, 256, .inl (fun _ => 0))), (q_15, .inr (2, [.ref q1_16, .ref q2_17, .ref q3_18, .int 0])), (q_20, .inr (3, [.ref q1_21, .int 0])), (q_23, .inr (4, [.int 0, .int 0, .int 0]))] := hD
  replace hK : va_K (dC, dI) vwCl [(cA_2, .object R_D), (cB_5, .byte), (cB_9, .byte), (cB_13, .byte)] s := hK
  refine va_putF (D := (dC, dI)) (ci := 0) (v := .ref q_23) (ty := (.object "TextKeeper$Power")) (C := R_K) (T := F_K) (N := 9) hx hb hw0 in_K ft_K tk_K nk_K hown hK hP hD hS 0 rfl rfl 6 (by decide) (hw0 (.fieldLink R_K 45 "TextKeeper" "power" "LTextKeeper$Power;") wm_187) (fun _ h9 => h9) rfl hin rfl (by decide +kernel) rfl rfl (Nat.le_of_ble_eq_true rfl) d_K_init_76 (fun H locs hP hD hS => ?_)
  replace hP : va_P (dC, dI) vwCl [(h0, .inr (0, [.ref q_1, .ref q_3, .ref q_7, .ref q_11, .ref q_15, .ref q_20, .ref q_23, .int 0, .int 0])), (q_1, .inl (cA_2, 8, .inr (.inr (.inr (.inr (fun _ => none)))))), (q_3, .inr (1, [.ref q1_4, .int 0])), (q1_4, .inl (cB_5, 256, .inl (fun _ => 0))), (q_7, .inr (1, [.ref q1_8, .int 0])), (q1_8, .inl (cB_9, 256, .inl (fun _ => 0))), (q_11, .inr (1, [.ref q1_12, .int 0])), (q1_12, .inl (cB_13, 256, .inl (fun _ => 0))), (q_15, .inr (2, [.ref q1_16, .ref q2_17, .ref q3_18, .int 0])), (q_20, .inr (3, [.ref q1_21, .int 0])), (q_23, .inr (4, [.int 0, .int 0, .int 0]))] H := hP
  replace hD : va_D A [(h0, .inr (0, [.ref q_1, .ref q_3, .ref q_7, .ref q_11, .ref q_15, .ref q_20, .ref q_23, .int 0, .int 0])), (q_1, .inl (cA_2, 8, .inr (.inr (.inr (.inr (fun _ => none)))))), (q_3, .inr (1, [.ref q1_4, .int 0])), (q1_4, .inl (cB_5, 256, .inl (fun _ => 0))), (q_7, .inr (1, [.ref q1_8, .int 0])), (q1_8, .inl (cB_9, 256, .inl (fun _ => 0))), (q_11, .inr (1, [.ref q1_12, .int 0])), (q1_12, .inl (cB_13, 256, .inl (fun _ => 0))), (q_15, .inr (2, [.ref q1_16, .ref q2_17, .ref q3_18, .int 0])), (q_20, .inr (3, [.ref q1_21, .int 0])), (q_23, .inr (4, [.int 0, .int 0, .int 0]))] := hD
  refine lv_aload_n hx hb d_K_init_79 rfl (lv_at hl 0 rfl) ?_
  refine lv_iconst (v := 0) hx hb d_K_init_80 (by decide) ?_
  refine va_put (D := (dC, dI)) (ci := 0) (v := .int 0) (ty := .int) (C := R_K) (T := F_K) (N := 9) hx hb hw0 in_K ft_K tk_K nk_K hown hK hP hD hS 0 rfl rfl 7 (by decide) (hw0 (.fieldLink R_K 49 "TextKeeper" "madeDocuments" "I") wm_188) (fun _ h9 => h9) rfl (by decide +kernel) rfl rfl (Nat.le_of_ble_eq_true rfl) d_K_init_81 (fun H locs hP hD hS => ?_)
  replace hP : va_P (dC, dI) vwCl [(h0, .inr (0, [.ref q_1, .ref q_3, .ref q_7, .ref q_11, .ref q_15, .ref q_20, .ref q_23, .int 0, .int 0])), (q_1, .inl (cA_2, 8, .inr (.inr (.inr (.inr (fun _ => none)))))), (q_3, .inr (1, [.ref q1_4, .int 0])), (q1_4, .inl (cB_5, 256, .inl (fun _ => 0))), (q_7, .inr (1, [.ref q1_8, .int 0])), (q1_8, .inl (cB_9, 256, .inl (fun _ => 0))), (q_11, .inr (1, [.ref q1_12, .int 0])), (q1_12, .inl (cB_13, 256, .inl (fun _ => 0))), (q_15, .inr (2, [.ref q1_16, .ref q2_17, .ref q3_18, .int 0])), (q_20, .inr (3, [.ref q1_21, .int 0])), (q_23, .inr (4, [.int 0, .int 0, .int 0]))] H := hP
  replace hD : va_D A [(h0, .inr (0, [.ref q_1, .ref q_3, .ref q_7, .ref q_11, .ref q_15, .ref q_20, .ref q_23, .int 0, .int 0])), (q_1, .inl (cA_2, 8, .inr (.inr (.inr (.inr (fun _ => none)))))), (q_3, .inr (1, [.ref q1_4, .int 0])), (q1_4, .inl (cB_5, 256, .inl (fun _ => 0))), (q_7, .inr (1, [.ref q1_8, .int 0])), (q1_8, .inl (cB_9, 256, .inl (fun _ => 0))), (q_11, .inr (1, [.ref q1_12, .int 0])), (q1_12, .inl (cB_13, 256, .inl (fun _ => 0))), (q_15, .inr (2, [.ref q1_16, .ref q2_17, .ref q3_18, .int 0])), (q_20, .inr (3, [.ref q1_21, .int 0])), (q_23, .inr (4, [.int 0, .int 0, .int 0]))] := hD
  refine lv_aload_n hx hb d_K_init_84 rfl (lv_at hl 0 rfl) ?_
  refine lv_iconst (v := (-1)) hx hb d_K_init_85 (by decide) ?_
  refine va_put (D := (dC, dI)) (ci := 0) (v := .int (-1)) (ty := .int) (C := R_K) (T := F_K) (N := 9) hx hb hw0 in_K ft_K tk_K nk_K hown hK hP hD hS 0 rfl rfl 8 (by decide) (hw0 (.fieldLink R_K 53 "TextKeeper" "fetchedSteps" "I") wm_189) (fun _ h9 => h9) rfl (by decide +kernel) rfl rfl (Nat.le_of_ble_eq_true rfl) d_K_init_86 (fun H locs hP hD hS => ?_)
  replace hP : va_P (dC, dI) vwCl [(h0, .inr (0, [.ref q_1, .ref q_3, .ref q_7, .ref q_11, .ref q_15, .ref q_20, .ref q_23, .int 0, .int (-1)])), (q_1, .inl (cA_2, 8, .inr (.inr (.inr (.inr (fun _ => none)))))), (q_3, .inr (1, [.ref q1_4, .int 0])), (q1_4, .inl (cB_5, 256, .inl (fun _ => 0))), (q_7, .inr (1, [.ref q1_8, .int 0])), (q1_8, .inl (cB_9, 256, .inl (fun _ => 0))), (q_11, .inr (1, [.ref q1_12, .int 0])), (q1_12, .inl (cB_13, 256, .inl (fun _ => 0))), (q_15, .inr (2, [.ref q1_16, .ref q2_17, .ref q3_18, .int 0])), (q_20, .inr (3, [.ref q1_21, .int 0])), (q_23, .inr (4, [.int 0, .int 0, .int 0]))] H := hP
  replace hD : va_D A [(h0, .inr (0, [.ref q_1, .ref q_3, .ref q_7, .ref q_11, .ref q_15, .ref q_20, .ref q_23, .int 0, .int (-1)])), (q_1, .inl (cA_2, 8, .inr (.inr (.inr (.inr (fun _ => none)))))), (q_3, .inr (1, [.ref q1_4, .int 0])), (q1_4, .inl (cB_5, 256, .inl (fun _ => 0))), (q_7, .inr (1, [.ref q1_8, .int 0])), (q1_8, .inl (cB_9, 256, .inl (fun _ => 0))), (q_11, .inr (1, [.ref q1_12, .int 0])), (q1_12, .inl (cB_13, 256, .inl (fun _ => 0))), (q_15, .inr (2, [.ref q1_16, .ref q2_17, .ref q3_18, .int 0])), (q_20, .inr (3, [.ref q1_21, .int 0])), (q_23, .inr (4, [.int 0, .int 0, .int 0]))] := hD
  have hP9 := hP.sub (ws' := [(h0, .inr (0, [.ref q_1, .ref q_3, .ref q_7, .ref q_11, .ref q_15, .ref q_20, .ref q_23, .int 0, .int (-1)])), (q_1, .inl (cA_2, 8, .inr (.inr (.inr (.inr (fun _ => none)))))), (q_3, .inr (1, [.ref q1_4, .int 0])), (q1_4, .inl (cB_5, 256, .inl (fun _ => 0))), (q_7, .inr (1, [.ref q1_8, .int 0])), (q_23, .inr (4, [.int 0, .int 0, .int 0]))]) [0, 1, 2, 3, 4, 10] rfl
  have hD9 := hD.sub (ws' := [(h0, .inr (0, [.ref q_1, .ref q_3, .ref q_7, .ref q_11, .ref q_15, .ref q_20, .ref q_23, .int 0, .int (-1)])), (q_1, .inl (cA_2, 8, .inr (.inr (.inr (.inr (fun _ => none)))))), (q_3, .inr (1, [.ref q1_4, .int 0])), (q1_4, .inl (cB_5, 256, .inl (fun _ => 0))), (q_7, .inr (1, [.ref q1_8, .int 0])), (q_23, .inr (4, [.int 0, .int 0, .int 0]))]) [0, 1, 2, 3, 4, 10] (by decide) rfl
  have hK9 := hK.sub (tys' := [(cA_2, .object R_D), (cB_5, .byte)]) [0, 1] rfl
  exact W.vret hx hb hr (fun t ht hW => ⟨⟨(), rfl, trivial, q_1, cA_2, q_3, q1_4, cB_5, q_7, q1_8, q_11, q_15, q_20, q_23, by rw [ht]; exact hP9, va_K.moved hW.alike hK9, hD9⟩, hS.F ht⟩) hS.2.2 d_K_init_89
end
section
set_option maxHeartbeats 4000000 in
set_option maxRecDepth 100000 in
theorem g_hasRoom (l : Launch) (dC : Nat → ClassId) (dI : Nat → Nat → Nat) (h0 : Nat) (hy : Value) (k : Nat) (n : Nat) (hk : k ≤ 256) (hn : n < 2 ^ 30) : Met l y_T_hasRoom k_T_hasRoom ({ frames := 0, cells := 0, slots := 0, locals := 0 } : Room) (va_Pc [.ref h0, .int (nI n)] (pc_R (dC, dI) [(h0, .inr (1, [hy, .int (nI k)]))] [])) (vp_Si (fun r => r = bI (decide (n + k ≤ 256)))) 0 0 (fun _ => False) := by
  refine Met.ofW (cc := prog_7_method_3_code) (maxL := 2) (ret := (some .boolean)) (by decide) rfl ?_
  intro p e s m args below meth c s₁ B hml hv
  obtain ⟨rfl, hP, hK, hN⟩ := hv
  have hx := B.exec
  have hb := B.bytes
  have hr := B.returns
  have hts := atoms_spec (ws := k_T_hasRoom) B.pre
  have hw0 : ∀ w ∈ w0, w.before _ s = true := fun w h => hts w (List.mem_cons_of_mem _ h)
  have hown : s.vm.findClass R_T = some m.cls := findClass_of_methodNamed B.named
  have hlocks := B.notSynchronized
  have hP : va_P (dC, dI) vwCl [(h0, .inr (1, [hy, .int (nI k)]))] s.heap := hP
  have hl := lv_entry ([.ref h0, .int (nI n)]) (n := 2) (Nat.le_of_ble_eq_true rfl)
  rw [lg_entry_eq]
  generalize (lg_sl ([.ref h0, .int (nI n)]) ++ List.replicate (2 - (lg_sl ([.ref h0, .int (nI n)])).length) Slot.unset).toArray = ls at hl ⊢
  have hl : lv_has ls 2 [(0, .ref h0), (1, .int (nI n))] := hl
  refine lv_iload_n hx hb d_T_hasRoom_0 rfl (lv_at hl 1 rfl) ?_
  refine lv_sipush (v := 256) hx hb d_T_hasRoom_1 (by decide +kernel) ?_
  refine lv_aload_n hx hb d_T_hasRoom_4 rfl (lv_at hl 0 rfl) ?_
  refine va_get (D := (dC, dI)) (ci := 1) (v := .int (nI k)) (C := R_T) (T := F_T) (N := 2) hx hb hw0 in_T hown hK hP 0 rfl rfl 1 (by decide) (hw0 (.fieldLink R_T 15 "TextKeeper$Text" "length" "I") wm_144) (fun _ h9 => h9) rfl d_T_hasRoom_5 ?_
  refine lv_isub hx hb d_T_hasRoom_8 ?_
  refine lv_topi (fun x_1 ex_1 => ?_)
  obtain rfl : x_1 = (nI (256 - k)) := by rw [ex_1]; exact (show (256 : Int32) - nI k = nI (256 - k) from pk_sub hk)
  clear ex_1
  refine lv_icmp_gt (tgt := 16) hx hb d_T_hasRoom_9 (by decide) (fun c_2 => ?_) (fun c_2 => ?_)
  · refine lv_iconst (v := 0) hx hb d_T_hasRoom_16 (by decide) ?_
    exact W.zret (v := 0) (ty := .boolean) hx hb hr rfl (fun t ht hW => ⟨0, rfl, (by have h9 := (nI_ltI (by omega) (by omega)).mp c_2; rw [bI, decide_eq_false (by omega)]; rfl), ht⟩) (fun q h => by cases h) d_T_hasRoom_17
  · refine lv_iconst (v := 1) hx hb d_T_hasRoom_12 (by decide) ?_
    refine lv_goto (tgt := 17) hx hb d_T_hasRoom_13 (by decide) ?_
    exact W.zret (v := 1) (ty := .boolean) hx hb hr rfl (fun t ht hW => ⟨1, rfl, (by have h9 := mt (nI_ltI (by omega) (by omega)).mpr c_2; rw [bI, decide_eq_true (by omega)]; rfl), ht⟩) (fun q h => by cases h) d_T_hasRoom_17
set_option maxHeartbeats 4000000 in
set_option maxRecDepth 100000 in
theorem g_byteAt (l : Launch) (dC : Nat → ClassId) (dI : Nat → Nat → Nat) (h0 : Nat) (hy : Nat) (cB : ClassId) (k : Nat) (f : Nat → Int32) (L : List Int32) (a1 : Int32) (htx : tx L k f) (hk : k ≤ 256) : Met l y_T_byteAt k_T_byteAt ({ frames := 0, cells := 0, slots := 0, locals := 0 } : Room) (va_Pc [.ref h0, .int a1] (pc_R (dC, dI) [(h0, .inr (1, [.ref hy, .int (nI k)])), (hy, .inl (cB, 256, .inl (f)))] [(cB, .byte)])) (vp_Si (fun r => r = bAt L a1)) 0 0 (fun _ => False) := by
  refine Met.ofW (cc := prog_7_method_2_code) (maxL := 2) (ret := (some .int)) (by decide) rfl ?_
  intro p e s m args below meth c s₁ B hml hv
  obtain ⟨rfl, hP, hK, hN⟩ := hv
  have hx := B.exec
  have hb := B.bytes
  have hr := B.returns
  have hts := atoms_spec (ws := k_T_byteAt) B.pre
  have hw0 : ∀ w ∈ w0, w.before _ s = true := fun w h => hts w (List.mem_cons_of_mem _ h)
  have hown : s.vm.findClass R_T = some m.cls := findClass_of_methodNamed B.named
  have hlocks := B.notSynchronized
  have hP : va_P (dC, dI) vwCl [(h0, .inr (1, [.ref hy, .int (nI k)])), (hy, .inl (cB, 256, .inl (f)))] s.heap := hP
  have hl := lv_entry ([.ref h0, .int a1]) (n := 2) (Nat.le_of_ble_eq_true rfl)
  rw [lg_entry_eq]
  generalize (lg_sl ([.ref h0, .int a1]) ++ List.replicate (2 - (lg_sl ([.ref h0, .int a1])).length) Slot.unset).toArray = ls at hl ⊢
  have hl : lv_has ls 2 [(0, .ref h0), (1, .int a1)] := hl
  refine lv_iload_n hx hb d_T_byteAt_0 rfl (lv_at hl 1 rfl) ?_
  refine lv_if_lt (tgt := 25) hx hb d_T_byteAt_1 (by decide) (fun c_1 => ?_) (fun c_1 => ?_)
  · refine lv_iconst (v := (-1)) hx hb d_T_byteAt_25 (by decide) ?_
    exact W.iret (v := (-1)) hx hb hr (fun t ht hW => ⟨(-1), rfl, (by rw [bAt, if_pos (Or.inl c_1)]), ht⟩) (fun q h => by cases h) d_T_byteAt_26
  · refine lv_iload_n hx hb d_T_byteAt_4 rfl (lv_at hl 1 rfl) ?_
    refine lv_aload_n hx hb d_T_byteAt_5 rfl (lv_at hl 0 rfl) ?_
    refine va_get (D := (dC, dI)) (ci := 1) (v := .int (nI k)) (C := R_T) (T := F_T) (N := 2) hx hb hw0 in_T hown hK hP 0 rfl rfl 1 (by decide) (hw0 (.fieldLink R_T 15 "TextKeeper$Text" "length" "I") wm_144) (fun _ h9 => h9) rfl d_T_byteAt_6 ?_
    refine lv_icmp_ge (tgt := 25) hx hb d_T_byteAt_9 (by decide) (fun c_2 => ?_) (fun c_2 => ?_)
    · refine lv_iconst (v := (-1)) hx hb d_T_byteAt_25 (by decide) ?_
      exact W.iret (v := (-1)) hx hb hr (fun t ht hW => ⟨(-1), rfl, (by rw [bAt, if_pos (Or.inr (by rw [htx.1]; exact c_2))]), ht⟩) (fun q h => by cases h) d_T_byteAt_26
    · refine lv_aload_n hx hb d_T_byteAt_12 rfl (lv_at hl 0 rfl) ?_
      refine va_get (D := (dC, dI)) (ci := 1) (v := .ref hy) (C := R_T) (T := F_T) (N := 2) hx hb hw0 in_T hown hK hP 0 rfl rfl 0 (by decide) (hw0 (.fieldLink R_T 9 "TextKeeper$Text" "bytes" "[B") wm_143) (fun _ h9 => h9) rfl d_T_byteAt_13 ?_
      refine lv_iload_n hx hb d_T_byteAt_16 rfl (lv_at hl 1 rfl) ?_
      refine va_bald hx hb hK hP 1 0 rfl rfl (x_inK hk (by decide) c_1 c_2) d_T_byteAt_17 ?_
      refine lv_topi (fun x_3 ex_3 => ?_)
      refine lv_sipush (v := 255) hx hb d_T_byteAt_18 (by decide +kernel) ?_
      refine lv_iand hx hb d_T_byteAt_21 ?_
      refine lv_topi (fun x_4 ex_4 => ?_)
      refine lv_goto (tgt := 26) hx hb d_T_byteAt_22 (by decide) ?_
      exact W.iret (v := x_4) hx hb hr (fun t ht hW => ⟨x_4, rfl, (by rw [bAt, if_neg (fun q => q.elim c_1 (fun q => c_2 (by rw [htx.1] at q; exact q))), ex_4, ex_3, tx_at htx (x_ltK c_1 c_2)]), ht⟩) (fun q h => by cases h) d_T_byteAt_26
set_option maxHeartbeats 4000000 in
set_option maxRecDepth 100000 in
theorem g_addByte (l : Launch) (dC : Nat → ClassId) (dI : Nat → Nat → Nat) (sz : Nat) (h0 : Nat) (hy : Nat) (cB : ClassId) (k : Nat) (f : Nat → Int32) (L : List Int32) (a1 : Int32) (htx : tx L k f) (hk : k < 256) : Met l y_T_addByte k_T_addByte ({ frames := 0, cells := 0, slots := 0, locals := 0 } : Room) (va_Pc [.ref h0, .int a1] (pc_E (dC, dI) [(h0, .inr (1, [.ref hy, .int (nI k)])), (hy, .inl (cB, 256, .inl (f)))] [(cB, .byte)] sz)) (va_Qv (fun (_ : Unit) => True) (fun (_ : Unit) t => ∃ (f2 : Nat → Int32), (tx (L ++ [nbb a1]) (k + 1) f2) ∧ at_E (dC, dI) (va_A [(h0, .inr (1, [.ref hy, .int (nI k)])), (hy, .inl (cB, 256, .inl (f)))] sz) [(h0, .inr (1, [.ref hy, .int (nI (k + 1))])), (hy, .inl (cB, 256, .inl (f2)))] [(cB, .byte)] t) (va_A [(h0, .inr (1, [.ref hy, .int (nI k)])), (hy, .inl (cB, 256, .inl (f)))] sz)) 0 0 (va_A [(h0, .inr (1, [.ref hy, .int (nI k)])), (hy, .inl (cB, 256, .inl (f)))] sz) := by
  refine Met.ofW (cc := prog_7_method_4_code) (maxL := 2) (ret := none) (by decide) rfl ?_
  intro p e s m args below meth c s₁ B hml hv
  obtain ⟨rfl, hsz, hP, hK, hD0, hN⟩ := hv
  have hx := B.exec
  have hb := B.bytes
  have hr := B.returns
  have hts := atoms_spec (ws := k_T_addByte) B.pre
  have hw0 : ∀ w ∈ w0, w.before _ s = true := fun w h => hts w (List.mem_cons_of_mem _ h)
  have hown : s.vm.findClass R_T = some m.cls := findClass_of_methodNamed B.named
  have hlocks := B.notSynchronized
  subst hsz
  have hD := hD0.self (sz := s.heap.size)
  generalize hAe : va_A [(h0, .inr (1, [.ref hy, .int (nI k)])), (hy, .inl (cB, 256, .inl (f)))] s.heap.size = A at hD ⊢
  have hA : ∀ q : Nat, s.heap.size ≤ q → A q := fun q h => by rw [← hAe]; exact Or.inr h
  have hS : va_S A s.heap s.heap [] := va_S.rf
  have hP : va_P (dC, dI) vwCl [(h0, .inr (1, [.ref hy, .int (nI k)])), (hy, .inl (cB, 256, .inl (f)))] s.heap := hP
  have hl := lv_entry ([.ref h0, .int a1]) (n := 2) (Nat.le_of_ble_eq_true rfl)
  rw [lg_entry_eq]
  generalize (lg_sl ([.ref h0, .int a1]) ++ List.replicate (2 - (lg_sl ([.ref h0, .int a1])).length) Slot.unset).toArray = ls at hl ⊢
  have hl : lv_has ls 2 [(0, .ref h0), (1, .int a1)] := hl
  refine lv_aload_n hx hb d_T_addByte_0 rfl (lv_at hl 0 rfl) ?_
  refine va_get (D := (dC, dI)) (ci := 1) (v := .int (nI k)) (C := R_T) (T := F_T) (N := 2) hx hb hw0 in_T hown hK hP 0 rfl rfl 1 (by decide) (hw0 (.fieldLink R_T 15 "TextKeeper$Text" "length" "I") wm_144) (fun _ h9 => h9) rfl d_T_addByte_1 ?_
  refine lv_sipush (v := 256) hx hb d_T_addByte_4 (by decide +kernel) ?_
  refine lv_icmp_ge (tgt := 31) hx hb d_T_addByte_7 (by decide) (fun c_1 => absurd c_1 (nI_ge hk (by decide))) (fun c_1 => ?_)
  refine lv_aload_n hx hb d_T_addByte_10 rfl (lv_at hl 0 rfl) ?_
  refine va_get (D := (dC, dI)) (ci := 1) (v := .ref hy) (C := R_T) (T := F_T) (N := 2) hx hb hw0 in_T hown hK hP 0 rfl rfl 0 (by decide) (hw0 (.fieldLink R_T 9 "TextKeeper$Text" "bytes" "[B") wm_143) (fun _ h9 => h9) rfl d_T_addByte_11 ?_
  refine lv_aload_n hx hb d_T_addByte_14 rfl (lv_at hl 0 rfl) ?_
  refine va_get (D := (dC, dI)) (ci := 1) (v := .int (nI k)) (C := R_T) (T := F_T) (N := 2) hx hb hw0 in_T hown hK hP 0 rfl rfl 1 (by decide) (hw0 (.fieldLink R_T 15 "TextKeeper$Text" "length" "I") wm_144) (fun _ h9 => h9) rfl d_T_addByte_15 ?_
  refine lv_iload_n hx hb d_T_addByte_18 rfl (lv_at hl 1 rfl) ?_
  obtain ⟨x_2, ex_2⟩ : ∃ y : Int32, a1.toInt8.toInt32 = y := ⟨_, rfl⟩
  refine lv_i2b (v := x_2) hx hb d_T_addByte_19 ex_2 ?_
  refine va_bast hx hb hK hP hD hS 1 0 rfl rfl (vp_in_nI hk (by decide)) d_T_addByte_20 (fun H locs hP hD hS => ?_)
  replace hP : va_P (dC, dI) vwCl [(h0, .inr (1, [.ref hy, .int (nI k)])), (hy, .inl (cB, 256, .inl (upd (f) (Int32.toNatClampNeg (nI k)) (vp_nar .byte (x_2)))))] H := hP
  replace hD : va_D A [(h0, .inr (1, [.ref hy, .int (nI k)])), (hy, .inl (cB, 256, .inl (upd (f) (Int32.toNatClampNeg (nI k)) (vp_nar .byte (x_2)))))] := hD
  have eS : upd (f) (Int32.toNatClampNeg (nI k)) (vp_nar .byte (x_2)) = upd f k (nbb a1) := by rw [nI_clamp (by omega), ← ex_2]; exact congrArg (upd f k) (pk_vb a1)
  rw [eS] at hP hD
  refine lv_aload_n hx hb d_T_addByte_21 rfl (lv_at hl 0 rfl) ?_
  refine lv_dup hx hb d_T_addByte_22 rfl ?_
  refine va_get (D := (dC, dI)) (ci := 1) (v := .int (nI k)) (C := R_T) (T := F_T) (N := 2) hx hb hw0 in_T hown hK hP 0 rfl rfl 1 (by decide) (hw0 (.fieldLink R_T 15 "TextKeeper$Text" "length" "I") wm_144) (fun _ h9 => h9) rfl d_T_addByte_23 ?_
  refine lv_iconst (v := 1) hx hb d_T_addByte_26 (by decide) ?_
  refine lv_iadd hx hb d_T_addByte_27 ?_
  refine lv_topi (fun x_3 ex_3 => ?_)
  obtain rfl : x_3 = (nI (k + 1)) := by rw [ex_3]; exact nI_1 k
  clear ex_3
  refine va_put (D := (dC, dI)) (ci := 1) (v := .int (nI (k + 1))) (ty := .int) (C := R_T) (T := F_T) (N := 2) hx hb hw0 in_T ft_T tk_T nk_T hown hK hP hD hS 0 rfl rfl 1 (by decide) (hw0 (.fieldLink R_T 15 "TextKeeper$Text" "length" "I") wm_144) (fun _ h9 => h9) rfl (by decide +kernel) rfl rfl (Nat.le_of_ble_eq_true rfl) d_T_addByte_28 (fun H locs hP hD hS => ?_)
  replace hP : va_P (dC, dI) vwCl [(h0, .inr (1, [.ref hy, .int (nI (k + 1))])), (hy, .inl (cB, 256, .inl ((upd f k (nbb a1)))))] H := hP
  replace hD : va_D A [(h0, .inr (1, [.ref hy, .int (nI (k + 1))])), (hy, .inl (cB, 256, .inl ((upd f k (nbb a1)))))] := hD
  have hP9 := hP.sub (ws' := [(h0, .inr (1, [.ref hy, .int (nI (k + 1))])), (hy, .inl (cB, 256, .inl ((upd f k (nbb a1)))))]) [0, 1] rfl
  have hD9 := hD.sub (ws' := [(h0, .inr (1, [.ref hy, .int (nI (k + 1))])), (hy, .inl (cB, 256, .inl ((upd f k (nbb a1)))))]) [0, 1] (by decide) rfl
  have hK9 := hK.sub (tys' := [(cB, .byte)]) [0] rfl
  exact W.vret hx hb hr (fun t ht hW => ⟨⟨(), rfl, trivial, (upd f k (nbb a1)), tx_push htx (nbb_B a1), by rw [ht]; exact hP9, va_K.moved hW.alike hK9, hD9⟩, hS.F ht⟩) hS.2.2 d_T_addByte_31
set_option maxHeartbeats 4000000 in
set_option maxRecDepth 100000 in
theorem g_addInt (l : Launch) (dC : Nat → ClassId) (dI : Nat → Nat → Nat) (sz : Nat) (h0 : Nat) (hy : Nat) (cB : ClassId) (k : Nat) (f : Nat → Int32) (L : List Int32) (a1 : Int32) (htx : tx L k f) (hk : k + 4 ≤ 256) : Met l y_T_addInt k_T_addInt ({ frames := 1, cells := 0, slots := 0, locals := 21 } : Room) (va_Pc [.ref h0, .int a1] (pc_E (dC, dI) [(h0, .inr (1, [.ref hy, .int (nI k)])), (hy, .inl (cB, 256, .inl (f)))] [(cB, .byte)] sz)) (va_Qv (fun (_ : Unit) => True) (fun (_ : Unit) t => ∃ (f2 : Nat → Int32), (tx (L ++ fb4 a1) (k + 4) f2) ∧ at_E (dC, dI) (va_A [(h0, .inr (1, [.ref hy, .int (nI k)])), (hy, .inl (cB, 256, .inl (f)))] sz) [(h0, .inr (1, [.ref hy, .int (nI (k + 4))])), (hy, .inl (cB, 256, .inl (f2)))] [(cB, .byte)] t) (va_A [(h0, .inr (1, [.ref hy, .int (nI k)])), (hy, .inl (cB, 256, .inl (f)))] sz)) 0 0 (va_A [(h0, .inr (1, [.ref hy, .int (nI k)])), (hy, .inl (cB, 256, .inl (f)))] sz) := by
  refine Met.ofW (cc := prog_7_method_5_code) (maxL := 3) (ret := none) (by decide) rfl ?_
  intro p e s m args below meth c s₁ B hml hv
  obtain ⟨rfl, hsz, hP, hK, hD0, hN⟩ := hv
  have hx := B.exec
  have hb := B.bytes
  have hr := B.returns
  have hts := atoms_spec (ws := k_T_addInt) B.pre
  have hw0 : ∀ w ∈ w0, w.before _ s = true := fun w h => hts w (List.mem_cons_of_mem _ h)
  have hown : s.vm.findClass R_T = some m.cls := findClass_of_methodNamed B.named
  have hlocks := B.notSynchronized
  subst hsz
  have hD := hD0.self (sz := s.heap.size)
  generalize hAe : va_A [(h0, .inr (1, [.ref hy, .int (nI k)])), (hy, .inl (cB, 256, .inl (f)))] s.heap.size = A at hD ⊢
  have hA : ∀ q : Nat, s.heap.size ≤ q → A q := fun q h => by rw [← hAe]; exact Or.inr h
  have hS : va_S A s.heap s.heap [] := va_S.rf
  have hP : va_P (dC, dI) vwCl [(h0, .inr (1, [.ref hy, .int (nI k)])), (hy, .inl (cB, 256, .inl (f)))] s.heap := hP
  have hl := lv_entry ([.ref h0, .int a1]) (n := 3) (Nat.le_of_ble_eq_true rfl)
  rw [lg_entry_eq]
  generalize (lg_sl ([.ref h0, .int a1]) ++ List.replicate (3 - (lg_sl ([.ref h0, .int a1])).length) Slot.unset).toArray = ls at hl ⊢
  have hl : lv_has ls 3 [(0, .ref h0), (1, .int a1)] := hl
  refine lv_bipush (v := 24) hx hb d_T_addInt_0 (by decide +kernel) ?_
  refine lv_istore_n (lv' := [(2, .int 24), (0, .ref h0), (1, .int a1)]) hx hb d_T_addInt_2 rfl hl (by decide) rfl (fun ls hl => ?_)
  refine lv_iload_n hx hb d_T_addInt_3 rfl (lv_at hl 0 rfl) ?_
  refine lv_if_lt (tgt := 20) hx hb d_T_addInt_4 (by decide) (fun h9 => absurd h9 (by decide +kernel)) (fun _ => ?_)
  refine lv_aload_n hx hb d_T_addInt_7 rfl (lv_at hl 1 rfl) ?_
  refine lv_iload_n hx hb d_T_addInt_8 rfl (lv_at hl 2 rfl) ?_
  refine lv_iload_n hx hb d_T_addInt_9 rfl (lv_at hl 0 rfl) ?_
  refine lv_ishr hx hb d_T_addInt_10 ?_
  have hPc := hP.sub (ws' := [(h0, .inr (1, [.ref hy, .int (nI k)])), (hy, .inl (cB, 256, .inl ((f))))]) [0, 1] rfl
  have hKc := hK.sub (tys' := [(cB, .byte)]) [0] rfl
  have hDc := hD.sub (ws' := [(h0, .inr (1, [.ref hy, .int (nI k)])), (hy, .inl (cB, 256, .inl ((f))))]) [0, 1] (by decide) rfl
  have hFc := va_free (wc := [(h0, .inr (1, [.ref hy, .int (nI k)])), (hy, .inl (cB, 256, .inl ((f))))]) hD hS hA [0, 1] rfl
  refine va_callv (va_runV (As := [.int (a1 >>> (24 &&& 31))]) (rest := []) ⟨hx, hb, hml, hown, hw0⟩ (g_addByte l dC dI s.heap.size h0 hy cB k (f) _ (a1 >>> (24 &&& 31)) (by first | assumption | decide | omega) (by first | assumption | decide | omega)) (cwV 1 hw0 (gd_Vm wm_190 wm_191 wm_192 wm_151 wm_193) rfl rfl rfl (by decide +kernel) ⟨by decide +kernel, by decide +kernel⟩) (prV_E hPc hKc hDc hN (va_recv hKc hPc (ci := 1) (q0 := 0) rfl rfl)) rfl rfl hl.1 rfl (lv_room (Nat.le_of_ble_eq_true rfl)) d_T_addInt_11 ⟨by decide +kernel, by decide +kernel⟩) hS (fun q _ h => hFc q h) hFc (fun u t H1 locs ht hvm hw hB hz1 hk1 hS => ?_)
  obtain ⟨f2_1, hu_2, hP1, hK1, hD1⟩ := hB
  rw [ht] at hP1
  have hK1 := va_K.moved hvm.symm hK1
  try dsimp only at hw
  obtain ⟨hP, hD⟩ := va_join (wr := []) (w1 := [(h0, .inr (1, [.ref hy, .int (nI (k + 1))])), (hy, .inl (cB, 256, .inl (f2_1)))]) hP hD [0, 1] [] rfl rfl (by decide) (by decide) hk1 hFc hP1 hD1
  generalize H1 = H at hP hS ⊢
  replace hP : va_P (dC, dI) vwCl [(h0, .inr (1, [.ref hy, .int (nI (k + 1))])), (hy, .inl (cB, 256, .inl (f2_1)))] H := hP
  replace hD : va_D A [(h0, .inr (1, [.ref hy, .int (nI (k + 1))])), (hy, .inl (cB, 256, .inl (f2_1)))] := hD
  replace hK : va_K (dC, dI) vwCl [(cB, .byte)] s := hK
  refine lv_iinc (v := 16) (lv' := [(2, .int 16), (0, .ref h0), (1, .int a1)]) hx hb d_T_addInt_14 hl (k := 0) rfl (by decide +kernel) (by decide) rfl (fun ls hl => ?_)
  refine lv_goto (tgt := 3) hx hb d_T_addInt_17 (by decide) ?_
  refine lv_iload_n hx hb d_T_addInt_3 rfl (lv_at hl 0 rfl) ?_
  refine lv_if_lt (tgt := 20) hx hb d_T_addInt_4 (by decide) (fun h9 => absurd h9 (by decide +kernel)) (fun _ => ?_)
  refine lv_aload_n hx hb d_T_addInt_7 rfl (lv_at hl 1 rfl) ?_
  refine lv_iload_n hx hb d_T_addInt_8 rfl (lv_at hl 2 rfl) ?_
  refine lv_iload_n hx hb d_T_addInt_9 rfl (lv_at hl 0 rfl) ?_
  refine lv_ishr hx hb d_T_addInt_10 ?_
  have hPc := hP.sub (ws' := [(h0, .inr (1, [.ref hy, .int (nI (k + 1))])), (hy, .inl (cB, 256, .inl ((f2_1))))]) [0, 1] rfl
  have hKc := hK.sub (tys' := [(cB, .byte)]) [0] rfl
  have hDc := hD.sub (ws' := [(h0, .inr (1, [.ref hy, .int (nI (k + 1))])), (hy, .inl (cB, 256, .inl ((f2_1))))]) [0, 1] (by decide) rfl
  have hFc := va_free (wc := [(h0, .inr (1, [.ref hy, .int (nI (k + 1))])), (hy, .inl (cB, 256, .inl ((f2_1))))]) hD hS hA [0, 1] rfl
  refine va_callv (va_runV (As := [.int (a1 >>> (16 &&& 31))]) (rest := []) ⟨hx, hb, hml, hown, hw0⟩ (g_addByte l dC dI H.size h0 hy cB (k + 1) (f2_1) _ (a1 >>> (16 &&& 31)) (by first | assumption | decide | omega) (by first | assumption | decide | omega)) (cwV 1 hw0 (gd_Vm wm_190 wm_191 wm_192 wm_151 wm_193) rfl rfl rfl (by decide +kernel) ⟨by decide +kernel, by decide +kernel⟩) (prV_E hPc hKc hDc hN (va_recv hKc hPc (ci := 1) (q0 := 0) rfl rfl)) rfl rfl hl.1 rfl (lv_room (Nat.le_of_ble_eq_true rfl)) d_T_addInt_11 ⟨by decide +kernel, by decide +kernel⟩) hS (fun q _ h => hFc q h) hFc (fun u t H1 locs ht hvm hw hB hz1 hk1 hS => ?_)
  obtain ⟨f2_3, hu_4, hP1, hK1, hD1⟩ := hB
  rw [ht] at hP1
  have hK1 := va_K.moved hvm.symm hK1
  try dsimp only at hw
  obtain ⟨hP, hD⟩ := va_join (wr := []) (w1 := [(h0, .inr (1, [.ref hy, .int (nI ((k + 1) + 1))])), (hy, .inl (cB, 256, .inl (f2_3)))]) hP hD [0, 1] [] rfl rfl (by decide) (by decide) hk1 hFc hP1 hD1
  generalize H1 = H at hP hS ⊢
  replace hP : va_P (dC, dI) vwCl [(h0, .inr (1, [.ref hy, .int (nI ((k + 1) + 1))])), (hy, .inl (cB, 256, .inl (f2_3)))] H := hP
  replace hD : va_D A [(h0, .inr (1, [.ref hy, .int (nI ((k + 1) + 1))])), (hy, .inl (cB, 256, .inl (f2_3)))] := hD
  replace hK : va_K (dC, dI) vwCl [(cB, .byte)] s := hK
  refine lv_iinc (v := 8) (lv' := [(2, .int 8), (0, .ref h0), (1, .int a1)]) hx hb d_T_addInt_14 hl (k := 0) rfl (by decide +kernel) (by decide) rfl (fun ls hl => ?_)
  refine lv_goto (tgt := 3) hx hb d_T_addInt_17 (by decide) ?_
  refine lv_iload_n hx hb d_T_addInt_3 rfl (lv_at hl 0 rfl) ?_
  refine lv_if_lt (tgt := 20) hx hb d_T_addInt_4 (by decide) (fun h9 => absurd h9 (by decide +kernel)) (fun _ => ?_)
  refine lv_aload_n hx hb d_T_addInt_7 rfl (lv_at hl 1 rfl) ?_
  refine lv_iload_n hx hb d_T_addInt_8 rfl (lv_at hl 2 rfl) ?_
  refine lv_iload_n hx hb d_T_addInt_9 rfl (lv_at hl 0 rfl) ?_
  refine lv_ishr hx hb d_T_addInt_10 ?_
  have hPc := hP.sub (ws' := [(h0, .inr (1, [.ref hy, .int (nI ((k + 1) + 1))])), (hy, .inl (cB, 256, .inl ((f2_3))))]) [0, 1] rfl
  have hKc := hK.sub (tys' := [(cB, .byte)]) [0] rfl
  have hDc := hD.sub (ws' := [(h0, .inr (1, [.ref hy, .int (nI ((k + 1) + 1))])), (hy, .inl (cB, 256, .inl ((f2_3))))]) [0, 1] (by decide) rfl
  have hFc := va_free (wc := [(h0, .inr (1, [.ref hy, .int (nI ((k + 1) + 1))])), (hy, .inl (cB, 256, .inl ((f2_3))))]) hD hS hA [0, 1] rfl
  refine va_callv (va_runV (As := [.int (a1 >>> (8 &&& 31))]) (rest := []) ⟨hx, hb, hml, hown, hw0⟩ (g_addByte l dC dI H.size h0 hy cB ((k + 1) + 1) (f2_3) _ (a1 >>> (8 &&& 31)) (by first | assumption | decide | omega) (by first | assumption | decide | omega)) (cwV 1 hw0 (gd_Vm wm_190 wm_191 wm_192 wm_151 wm_193) rfl rfl rfl (by decide +kernel) ⟨by decide +kernel, by decide +kernel⟩) (prV_E hPc hKc hDc hN (va_recv hKc hPc (ci := 1) (q0 := 0) rfl rfl)) rfl rfl hl.1 rfl (lv_room (Nat.le_of_ble_eq_true rfl)) d_T_addInt_11 ⟨by decide +kernel, by decide +kernel⟩) hS (fun q _ h => hFc q h) hFc (fun u t H1 locs ht hvm hw hB hz1 hk1 hS => ?_)
  obtain ⟨f2_5, hu_6, hP1, hK1, hD1⟩ := hB
  rw [ht] at hP1
  have hK1 := va_K.moved hvm.symm hK1
  try dsimp only at hw
  obtain ⟨hP, hD⟩ := va_join (wr := []) (w1 := [(h0, .inr (1, [.ref hy, .int (nI (((k + 1) + 1) + 1))])), (hy, .inl (cB, 256, .inl (f2_5)))]) hP hD [0, 1] [] rfl rfl (by decide) (by decide) hk1 hFc hP1 hD1
  generalize H1 = H at hP hS ⊢
  replace hP : va_P (dC, dI) vwCl [(h0, .inr (1, [.ref hy, .int (nI (((k + 1) + 1) + 1))])), (hy, .inl (cB, 256, .inl (f2_5)))] H := hP
  replace hD : va_D A [(h0, .inr (1, [.ref hy, .int (nI (((k + 1) + 1) + 1))])), (hy, .inl (cB, 256, .inl (f2_5)))] := hD
  replace hK : va_K (dC, dI) vwCl [(cB, .byte)] s := hK
  refine lv_iinc (v := 0) (lv' := [(2, .int 0), (0, .ref h0), (1, .int a1)]) hx hb d_T_addInt_14 hl (k := 0) rfl (by decide +kernel) (by decide) rfl (fun ls hl => ?_)
  refine lv_goto (tgt := 3) hx hb d_T_addInt_17 (by decide) ?_
  refine lv_iload_n hx hb d_T_addInt_3 rfl (lv_at hl 0 rfl) ?_
  refine lv_if_lt (tgt := 20) hx hb d_T_addInt_4 (by decide) (fun h9 => absurd h9 (by decide +kernel)) (fun _ => ?_)
  refine lv_aload_n hx hb d_T_addInt_7 rfl (lv_at hl 1 rfl) ?_
  refine lv_iload_n hx hb d_T_addInt_8 rfl (lv_at hl 2 rfl) ?_
  refine lv_iload_n hx hb d_T_addInt_9 rfl (lv_at hl 0 rfl) ?_
  refine lv_ishr hx hb d_T_addInt_10 ?_
  have hPc := hP.sub (ws' := [(h0, .inr (1, [.ref hy, .int (nI (((k + 1) + 1) + 1))])), (hy, .inl (cB, 256, .inl ((f2_5))))]) [0, 1] rfl
  have hKc := hK.sub (tys' := [(cB, .byte)]) [0] rfl
  have hDc := hD.sub (ws' := [(h0, .inr (1, [.ref hy, .int (nI (((k + 1) + 1) + 1))])), (hy, .inl (cB, 256, .inl ((f2_5))))]) [0, 1] (by decide) rfl
  have hFc := va_free (wc := [(h0, .inr (1, [.ref hy, .int (nI (((k + 1) + 1) + 1))])), (hy, .inl (cB, 256, .inl ((f2_5))))]) hD hS hA [0, 1] rfl
  refine va_callv (va_runV (As := [.int (a1 >>> (0 &&& 31))]) (rest := []) ⟨hx, hb, hml, hown, hw0⟩ (g_addByte l dC dI H.size h0 hy cB (((k + 1) + 1) + 1) (f2_5) _ (a1 >>> (0 &&& 31)) (by first | assumption | decide | omega) (by first | assumption | decide | omega)) (cwV 1 hw0 (gd_Vm wm_190 wm_191 wm_192 wm_151 wm_193) rfl rfl rfl (by decide +kernel) ⟨by decide +kernel, by decide +kernel⟩) (prV_E hPc hKc hDc hN (va_recv hKc hPc (ci := 1) (q0 := 0) rfl rfl)) rfl rfl hl.1 rfl (lv_room (Nat.le_of_ble_eq_true rfl)) d_T_addInt_11 ⟨by decide +kernel, by decide +kernel⟩) hS (fun q _ h => hFc q h) hFc (fun u t H1 locs ht hvm hw hB hz1 hk1 hS => ?_)
  obtain ⟨f2_7, hu_8, hP1, hK1, hD1⟩ := hB
  rw [ht] at hP1
  have hK1 := va_K.moved hvm.symm hK1
  try dsimp only at hw
  obtain ⟨hP, hD⟩ := va_join (wr := []) (w1 := [(h0, .inr (1, [.ref hy, .int (nI ((((k + 1) + 1) + 1) + 1))])), (hy, .inl (cB, 256, .inl (f2_7)))]) hP hD [0, 1] [] rfl rfl (by decide) (by decide) hk1 hFc hP1 hD1
  generalize H1 = H at hP hS ⊢
  replace hP : va_P (dC, dI) vwCl [(h0, .inr (1, [.ref hy, .int (nI ((((k + 1) + 1) + 1) + 1))])), (hy, .inl (cB, 256, .inl (f2_7)))] H := hP
  replace hD : va_D A [(h0, .inr (1, [.ref hy, .int (nI ((((k + 1) + 1) + 1) + 1))])), (hy, .inl (cB, 256, .inl (f2_7)))] := hD
  replace hK : va_K (dC, dI) vwCl [(cB, .byte)] s := hK
  refine lv_iinc (v := (-8)) (lv' := [(2, .int (-8)), (0, .ref h0), (1, .int a1)]) hx hb d_T_addInt_14 hl (k := 0) rfl (by decide +kernel) (by decide) rfl (fun ls hl => ?_)
  refine lv_goto (tgt := 3) hx hb d_T_addInt_17 (by decide) ?_
  refine lv_iload_n hx hb d_T_addInt_3 rfl (lv_at hl 0 rfl) ?_
  refine lv_if_lt (tgt := 20) hx hb d_T_addInt_4 (by decide) (fun _ => ?_) (fun h9 => absurd h9 (by decide +kernel))
  have hP9 := hP.sub (ws' := [(h0, .inr (1, [.ref hy, .int (nI (k + 4))])), (hy, .inl (cB, 256, .inl (f2_7)))]) [0, 1] rfl
  have hD9 := hD.sub (ws' := [(h0, .inr (1, [.ref hy, .int (nI (k + 4))])), (hy, .inl (cB, 256, .inl (f2_7)))]) [0, 1] (by decide) rfl
  have hK9 := hK.sub (tys' := [(cB, .byte)]) [0] rfl
  exact W.vret hx hb hr (fun t ht hW => ⟨⟨(), rfl, trivial, f2_7, (by have h9 := hu_8; simp only [List.append_assoc, List.cons_append, List.nil_append] at h9; exact h9), by rw [ht]; exact hP9, va_K.moved hW.alike hK9, hD9⟩, hS.F ht⟩) hS.2.2 d_T_addInt_20
set_option maxHeartbeats 4000000 in
set_option maxRecDepth 100000 in
theorem g_shorten_T (l : Launch) (dC : Nat → ClassId) (dI : Nat → Nat → Nat) (sz : Nat) (h0 : Nat) (hy : Nat) (cB : ClassId) (k : Nat) (f : Nat → Int32) (L : List Int32) (n : Nat) (htx : tx L k f) (hk : k ≤ 256) (hn : n ≤ k) : Met l y_T_shorten k_T_shorten ({ frames := 0, cells := 0, slots := 0, locals := 0 } : Room) (va_Pc [.ref h0, .int (nI n)] (pc_E (dC, dI) [(h0, .inr (1, [.ref hy, .int (nI k)])), (hy, .inl (cB, 256, .inl (f)))] [(cB, .byte)] sz)) (va_Qi (fun (r : Int32) (_ : Unit) => r = 1) (fun (_ : Unit) t => (tx (L.take n) n f) ∧ at_E (dC, dI) (va_A [(h0, .inr (1, [.ref hy, .int (nI k)])), (hy, .inl (cB, 256, .inl (f)))] sz) [(h0, .inr (1, [.ref hy, .int (nI n)])), (hy, .inl (cB, 256, .inl (f)))] [(cB, .byte)] t) (va_A [(h0, .inr (1, [.ref hy, .int (nI k)])), (hy, .inl (cB, 256, .inl (f)))] sz)) 0 0 (va_A [(h0, .inr (1, [.ref hy, .int (nI k)])), (hy, .inl (cB, 256, .inl (f)))] sz) := by
  refine Met.ofW (cc := prog_7_method_6_code) (maxL := 2) (ret := (some .boolean)) (by decide) rfl ?_
  intro p e s m args below meth c s₁ B hml hv
  obtain ⟨rfl, hsz, hP, hK, hD0, hN⟩ := hv
  have hx := B.exec
  have hb := B.bytes
  have hr := B.returns
  have hts := atoms_spec (ws := k_T_shorten) B.pre
  have hw0 : ∀ w ∈ w0, w.before _ s = true := fun w h => hts w (List.mem_cons_of_mem _ h)
  have hown : s.vm.findClass R_T = some m.cls := findClass_of_methodNamed B.named
  have hlocks := B.notSynchronized
  subst hsz
  have hD := hD0.self (sz := s.heap.size)
  generalize hAe : va_A [(h0, .inr (1, [.ref hy, .int (nI k)])), (hy, .inl (cB, 256, .inl (f)))] s.heap.size = A at hD ⊢
  have hA : ∀ q : Nat, s.heap.size ≤ q → A q := fun q h => by rw [← hAe]; exact Or.inr h
  have hS : va_S A s.heap s.heap [] := va_S.rf
  have hP : va_P (dC, dI) vwCl [(h0, .inr (1, [.ref hy, .int (nI k)])), (hy, .inl (cB, 256, .inl (f)))] s.heap := hP
  have hl := lv_entry ([.ref h0, .int (nI n)]) (n := 2) (Nat.le_of_ble_eq_true rfl)
  rw [lg_entry_eq]
  generalize (lg_sl ([.ref h0, .int (nI n)]) ++ List.replicate (2 - (lg_sl ([.ref h0, .int (nI n)])).length) Slot.unset).toArray = ls at hl ⊢
  have hl : lv_has ls 2 [(0, .ref h0), (1, .int (nI n))] := hl
  refine lv_iload_n hx hb d_T_shorten_0 rfl (lv_at hl 1 rfl) ?_
  refine lv_if_lt (tgt := 12) hx hb d_T_shorten_1 (by decide) (fun c_1 => absurd c_1 (nI_pos (by omega))) (fun c_1 => ?_)
  refine lv_iload_n hx hb d_T_shorten_4 rfl (lv_at hl 1 rfl) ?_
  refine lv_aload_n hx hb d_T_shorten_5 rfl (lv_at hl 0 rfl) ?_
  refine va_get (D := (dC, dI)) (ci := 1) (v := .int (nI k)) (C := R_T) (T := F_T) (N := 2) hx hb hw0 in_T hown hK hP 0 rfl rfl 1 (by decide) (hw0 (.fieldLink R_T 15 "TextKeeper$Text" "length" "I") wm_144) (fun _ h9 => h9) rfl d_T_shorten_6 ?_
  refine lv_icmp_le (tgt := 14) hx hb d_T_shorten_9 (by decide) (fun c_2 => ?_) (fun c_2 => absurd (nI_le hn (by omega)) c_2)
  refine lv_aload_n hx hb d_T_shorten_14 rfl (lv_at hl 0 rfl) ?_
  refine lv_iload_n hx hb d_T_shorten_15 rfl (lv_at hl 1 rfl) ?_
  refine va_put (D := (dC, dI)) (ci := 1) (v := .int (nI n)) (ty := .int) (C := R_T) (T := F_T) (N := 2) hx hb hw0 in_T ft_T tk_T nk_T hown hK hP hD hS 0 rfl rfl 1 (by decide) (hw0 (.fieldLink R_T 15 "TextKeeper$Text" "length" "I") wm_144) (fun _ h9 => h9) rfl (by decide +kernel) rfl rfl (Nat.le_of_ble_eq_true rfl) d_T_shorten_16 (fun H locs hP hD hS => ?_)
  replace hP : va_P (dC, dI) vwCl [(h0, .inr (1, [.ref hy, .int (nI n)])), (hy, .inl (cB, 256, .inl (f)))] H := hP
  replace hD : va_D A [(h0, .inr (1, [.ref hy, .int (nI n)])), (hy, .inl (cB, 256, .inl (f)))] := hD
  refine lv_iconst (v := 1) hx hb d_T_shorten_19 (by decide) ?_
  have hP9 := hP.sub (ws' := [(h0, .inr (1, [.ref hy, .int (nI n)])), (hy, .inl (cB, 256, .inl (f)))]) [0, 1] rfl
  have hD9 := hD.sub (ws' := [(h0, .inr (1, [.ref hy, .int (nI n)])), (hy, .inl (cB, 256, .inl (f)))]) [0, 1] (by decide) rfl
  have hK9 := hK.sub (tys' := [(cB, .byte)]) [0] rfl
  exact W.zret (v := 1) (ty := .boolean) hx hb hr rfl (fun t ht hW => ⟨⟨1, (), rfl, rfl, tx_take htx hn, by rw [ht]; exact hP9, va_K.moved hW.alike hK9, hD9⟩, hS.F ht⟩) hS.2.2 d_T_shorten_20
set_option maxHeartbeats 4000000 in
set_option maxRecDepth 100000 in
theorem g_shorten_F (l : Launch) (dC : Nat → ClassId) (dI : Nat → Nat → Nat) (h0 : Nat) (hy : Nat) (cB : ClassId) (k : Nat) (f : Nat → Int32) (a1 : Int32) (hn : a1 < 0 ∨ nI k < a1) : Met l y_T_shorten k_T_shorten ({ frames := 0, cells := 0, slots := 0, locals := 0 } : Room) (va_Pc [.ref h0, .int a1] (pc_R (dC, dI) [(h0, .inr (1, [.ref hy, .int (nI k)])), (hy, .inl (cB, 256, .inl (f)))] [(cB, .byte)])) (vp_Si (fun r => r = 0)) 0 0 (fun _ => False) := by
  refine Met.ofW (cc := prog_7_method_6_code) (maxL := 2) (ret := (some .boolean)) (by decide) rfl ?_
  intro p e s m args below meth c s₁ B hml hv
  obtain ⟨rfl, hP, hK, hN⟩ := hv
  have hx := B.exec
  have hb := B.bytes
  have hr := B.returns
  have hts := atoms_spec (ws := k_T_shorten) B.pre
  have hw0 : ∀ w ∈ w0, w.before _ s = true := fun w h => hts w (List.mem_cons_of_mem _ h)
  have hown : s.vm.findClass R_T = some m.cls := findClass_of_methodNamed B.named
  have hlocks := B.notSynchronized
  have hP : va_P (dC, dI) vwCl [(h0, .inr (1, [.ref hy, .int (nI k)])), (hy, .inl (cB, 256, .inl (f)))] s.heap := hP
  have hl := lv_entry ([.ref h0, .int a1]) (n := 2) (Nat.le_of_ble_eq_true rfl)
  rw [lg_entry_eq]
  generalize (lg_sl ([.ref h0, .int a1]) ++ List.replicate (2 - (lg_sl ([.ref h0, .int a1])).length) Slot.unset).toArray = ls at hl ⊢
  have hl : lv_has ls 2 [(0, .ref h0), (1, .int a1)] := hl
  refine lv_iload_n hx hb d_T_shorten_0 rfl (lv_at hl 1 rfl) ?_
  refine lv_if_lt (tgt := 12) hx hb d_T_shorten_1 (by decide) (fun c_1 => ?_) (fun c_1 => ?_)
  · refine lv_iconst (v := 0) hx hb d_T_shorten_12 (by decide) ?_
    exact W.zret (v := 0) (ty := .boolean) hx hb hr rfl (fun t ht hW => ⟨0, rfl, rfl, ht⟩) (fun q h => by cases h) d_T_shorten_13
  · refine lv_iload_n hx hb d_T_shorten_4 rfl (lv_at hl 1 rfl) ?_
    refine lv_aload_n hx hb d_T_shorten_5 rfl (lv_at hl 0 rfl) ?_
    refine va_get (D := (dC, dI)) (ci := 1) (v := .int (nI k)) (C := R_T) (T := F_T) (N := 2) hx hb hw0 in_T hown hK hP 0 rfl rfl 1 (by decide) (hw0 (.fieldLink R_T 15 "TextKeeper$Text" "length" "I") wm_144) (fun _ h9 => h9) rfl d_T_shorten_6 ?_
    refine lv_icmp_le (tgt := 14) hx hb d_T_shorten_9 (by decide) (fun c_2 => absurd c_2 (fun h9 => hn.elim (fun h => c_1 h) (fun h => Int32.not_le.mpr h h9))) (fun c_2 => ?_)
    refine lv_iconst (v := 0) hx hb d_T_shorten_12 (by decide) ?_
    exact W.zret (v := 0) (ty := .boolean) hx hb hr rfl (fun t ht hW => ⟨0, rfl, rfl, ht⟩) (fun q h => by cases h) d_T_shorten_13
set_option maxHeartbeats 4000000 in
set_option maxRecDepth 100000 in
theorem lq_sum {p : Program} {l : Launch} {e : Env} {s : State} {m : MethodId} {args : Array Value} {below : List Frame} {meth : Method} {c : Code} {dC : Nat → ClassId} {dI : Nat → Nat → Nat} {A : Nat → Prop} {Q : State → Prop} (h0 : Nat) (hy : Nat) (cB : ClassId) (k : Nat) (f : Nat → Int32) (L : List Int32) (htx : tx L k f) (hk : k ≤ 256)
    (hx : p.tables.exec = Jvm.exec) (hb : c.code = prog_7_method_8_code) (hml : c.maxLocals = 3) (hown : s.vm.findClass R_T = some m.cls) (hw0 : ∀ w ∈ w0, w.before args s = true) (hN : nw_ok s) (hK : va_K (dC, dI) vwCl [(cB, .byte)] s) (hA : ∀ q : Nat, s.heap.size ≤ q → A q)
    (kk : ∀ (H : Heap) (locs : List Loc), va_P (dC, dI) vwCl [(h0, .inr (1, [.ref hy, .int (nI k)])), (hy, .inl (cB, 256, .inl (f)))] H → va_D A [(h0, .inr (1, [.ref hy, .int (nI k)])), (hy, .inl (cB, 256, .inl (f)))] → va_S A s.heap H locs → ∀ ls : Array Slot, lv_has ls 3 [(2, .int (nI k)), (1, .int (sumL (L.take k))), (0, .ref h0)] → W p l e ({ frames := 0, cells := 0, slots := 0, locals := 0 } : Room) s m args below meth c H locs 0 0 Q (F0 m 36 ls [])) :
    ∀ (n j : Nat), j ≤ k → k < j + n → ∀ (H : Heap) (locs : List Loc), va_P (dC, dI) vwCl [(h0, .inr (1, [.ref hy, .int (nI k)])), (hy, .inl (cB, 256, .inl (f)))] H → va_D A [(h0, .inr (1, [.ref hy, .int (nI k)])), (hy, .inl (cB, 256, .inl (f)))] → va_S A s.heap H locs → ∀ ls : Array Slot, lv_has ls 3 [(2, .int (nI j)), (1, .int (sumL (L.take j))), (0, .ref h0)] → W p l e ({ frames := 0, cells := 0, slots := 0, locals := 0 } : Room) s m args below meth c H locs 0 0 Q (F0 m 4 ls []) := by
  intro n
  induction n with
  | zero => intro j h1 h2; exact absurd h2 (by omega)
  | succ n ih =>
    intro j hj hn   H locs hP hD hS ls hl
    refine lv_iload_n hx hb d_T_sum_4 rfl (lv_at hl 0 rfl) ?_
    refine lv_aload_n hx hb d_T_sum_5 rfl (lv_at hl 2 rfl) ?_
    refine va_get (D := (dC, dI)) (ci := 1) (v := .int (nI k)) (C := R_T) (T := F_T) (N := 2) hx hb hw0 in_T hown hK hP 0 rfl rfl 1 (by decide) (hw0 (.fieldLink R_T 15 "TextKeeper$Text" "length" "I") wm_144) (fun _ h9 => h9) rfl d_T_sum_6 ?_
    refine lv_icmp_ge (tgt := 36) hx hb d_T_sum_9 (by decide) (fun c_1 => ?_) (fun c_1 => ?_)
    · obtain rfl : j = k := x_geN (by omega) hj c_1
      exact kk _ _ hP hD hS ls (lv_sub hl [0, 1, 2] rfl)
    · have hlt : j < k := x_ltN (by omega) hj c_1
      refine lv_iload_n hx hb d_T_sum_12 rfl (lv_at hl 1 rfl) ?_
      refine lv_bipush (v := 31) hx hb d_T_sum_13 (by decide +kernel) ?_
      refine lv_imul hx hb d_T_sum_15 ?_
      refine lv_topi (fun x_2 ex_2 => ?_)
      refine lv_aload_n hx hb d_T_sum_16 rfl (lv_at hl 2 rfl) ?_
      refine va_get (D := (dC, dI)) (ci := 1) (v := .ref hy) (C := R_T) (T := F_T) (N := 2) hx hb hw0 in_T hown hK hP 0 rfl rfl 0 (by decide) (hw0 (.fieldLink R_T 9 "TextKeeper$Text" "bytes" "[B") wm_143) (fun _ h9 => h9) rfl d_T_sum_17 ?_
      refine lv_iload_n hx hb d_T_sum_20 rfl (lv_at hl 0 rfl) ?_
      refine va_bald hx hb hK hP 1 0 rfl rfl (vp_in_nI (by omega) (by decide)) d_T_sum_21 ?_
      refine lv_topi (fun x_3 ex_3 => ?_)
      refine lv_sipush (v := 255) hx hb d_T_sum_22 (by decide +kernel) ?_
      refine lv_iand hx hb d_T_sum_25 ?_
      refine lv_topi (fun x_4 ex_4 => ?_)
      refine lv_iadd hx hb d_T_sum_26 ?_
      refine lv_topi (fun x_5 ex_5 => ?_)
      refine lv_iconst (v := 1) hx hb d_T_sum_27 (by decide) ?_
      refine lv_iadd hx hb d_T_sum_28 ?_
      refine lv_topi (fun x_6 ex_6 => ?_)
      obtain rfl : x_6 = (sumL (L.take (j + 1))) := by rw [ex_6, ex_5, ex_2, ex_4, ex_3]; rw [sumL_take (by rw [htx.1]; exact hlt), nI_clamp (by omega), tx_at htx hlt]
      clear ex_6
      refine lv_istore_n (lv' := [(1, .int (sumL (L.take (j + 1)))), (2, .int (nI j)), (0, .ref h0)]) hx hb d_T_sum_29 rfl hl (by decide) rfl (fun ls hl => ?_)
      refine lv_iinc (v := nI (j + 1)) (lv' := [(2, .int (nI (j + 1))), (1, .int (sumL (L.take (j + 1)))), (0, .ref h0)]) hx hb d_T_sum_30 hl (k := 1) rfl (nI_1 j) (by decide) rfl (fun ls hl => ?_)
      refine lv_goto (tgt := 4) hx hb d_T_sum_33 (by decide) ?_
      exact ih (j + 1) hlt (by omega) _ _ hP hD hS ls (lv_sub hl [0, 1, 2] rfl)
set_option maxHeartbeats 4000000 in
set_option maxRecDepth 100000 in
theorem g_sum (l : Launch) (dC : Nat → ClassId) (dI : Nat → Nat → Nat) (sz : Nat) (h0 : Nat) (hy : Nat) (cB : ClassId) (k : Nat) (f : Nat → Int32) (L : List Int32) (htx : tx L k f) (hk : k ≤ 256) : Met l y_T_sum k_T_sum ({ frames := 0, cells := 0, slots := 0, locals := 0 } : Room) (va_Pc [.ref h0] (pc_E (dC, dI) [(h0, .inr (1, [.ref hy, .int (nI k)])), (hy, .inl (cB, 256, .inl (f)))] [(cB, .byte)] sz)) (va_Qi (fun (r : Int32) (_ : Unit) => r = sumL L) (fun (_ : Unit) t => at_E (dC, dI) (va_A [(h0, .inr (1, [.ref hy, .int (nI k)])), (hy, .inl (cB, 256, .inl (f)))] sz) [(h0, .inr (1, [.ref hy, .int (nI k)])), (hy, .inl (cB, 256, .inl (f)))] [(cB, .byte)] t) (va_A [(h0, .inr (1, [.ref hy, .int (nI k)])), (hy, .inl (cB, 256, .inl (f)))] sz)) 0 0 (va_A [(h0, .inr (1, [.ref hy, .int (nI k)])), (hy, .inl (cB, 256, .inl (f)))] sz) := by
  refine Met.ofW (cc := prog_7_method_8_code) (maxL := 3) (ret := (some .int)) (by decide) rfl ?_
  intro p e s m args below meth c s₁ B hml hv
  obtain ⟨rfl, hsz, hP, hK, hD0, hN⟩ := hv
  have hx := B.exec
  have hb := B.bytes
  have hr := B.returns
  have hts := atoms_spec (ws := k_T_sum) B.pre
  have hw0 : ∀ w ∈ w0, w.before _ s = true := fun w h => hts w (List.mem_cons_of_mem _ h)
  have hown : s.vm.findClass R_T = some m.cls := findClass_of_methodNamed B.named
  have hlocks := B.notSynchronized
  subst hsz
  have hD := hD0.self (sz := s.heap.size)
  generalize hAe : va_A [(h0, .inr (1, [.ref hy, .int (nI k)])), (hy, .inl (cB, 256, .inl (f)))] s.heap.size = A at hD ⊢
  have hA : ∀ q : Nat, s.heap.size ≤ q → A q := fun q h => by rw [← hAe]; exact Or.inr h
  have hS : va_S A s.heap s.heap [] := va_S.rf
  have hP : va_P (dC, dI) vwCl [(h0, .inr (1, [.ref hy, .int (nI k)])), (hy, .inl (cB, 256, .inl (f)))] s.heap := hP
  have hl := lv_entry ([.ref h0]) (n := 3) (Nat.le_of_ble_eq_true rfl)
  rw [lg_entry_eq]
  generalize (lg_sl ([.ref h0]) ++ List.replicate (3 - (lg_sl ([.ref h0])).length) Slot.unset).toArray = ls at hl ⊢
  have hl : lv_has ls 3 [(0, .ref h0)] := hl
  refine lv_iconst (v := 0) hx hb d_T_sum_0 (by decide) ?_
  refine lv_istore_n (lv' := [(1, .int 0), (0, .ref h0)]) hx hb d_T_sum_1 rfl hl (by decide) rfl (fun ls hl => ?_)
  refine lv_iconst (v := 0) hx hb d_T_sum_2 (by decide) ?_
  refine lv_istore_n (lv' := [(2, .int 0), (1, .int 0), (0, .ref h0)]) hx hb d_T_sum_3 rfl hl (by decide) rfl (fun ls hl => ?_)
  have hP8 := hP
  have hD8 := hD
  have hK8 := hK
  refine lq_sum h0 hy cB k f L htx hk hx hb hml hown hw0 hN hK8 hA (fun H locs hP hD hS ls hl => ?_) (k + 1) 0 (by omega) (by omega) _ _ hP8 hD8 hS ls (lv_sub hl [0, 1, 2] rfl)
  refine lv_iload_n hx hb d_T_sum_36 rfl (lv_at hl 1 rfl) ?_
  have hP9 := hP.sub (ws' := [(h0, .inr (1, [.ref hy, .int (nI k)])), (hy, .inl (cB, 256, .inl (f)))]) [0, 1] rfl
  have hD9 := hD.sub (ws' := [(h0, .inr (1, [.ref hy, .int (nI k)])), (hy, .inl (cB, 256, .inl (f)))]) [0, 1] (by decide) rfl
  have hK9 := hK.sub (tys' := [(cB, .byte)]) [0] rfl
  exact W.iret (v := (sumL (L.take k))) hx hb hr (fun t ht hW => ⟨⟨(sumL (L.take k)), (), rfl, (by rw [← htx.1, List.take_length]), by rw [ht]; exact hP9, va_K.moved hW.alike hK9, hD9⟩, hS.F ht⟩) hS.2.2 d_T_sum_37
set_option maxHeartbeats 4000000 in
set_option maxRecDepth 100000 in
theorem g_become (l : Launch) (dC : Nat → ClassId) (dI : Nat → Nat → Nat) (sz : Nat) (h0 : Nat) (hy : Nat) (cB : ClassId) (k : Nat) (f : Nat → Int32) (L : List Int32) (h2 : Nat) (hy2 : Nat) (cB2 : ClassId) (k2 : Nat) (fo : Nat → Int32) (L2 : List Int32) (htx : tx L k f) (htx2 : tx L2 k2 fo) (hk2 : k2 ≤ 256) : Met l y_T_become k_T_become ({ frames := 1, cells := 0, slots := 0, locals := 40 } : Room) (va_Pc [.ref h0, .ref h2] (pc_E (dC, dI) [(h0, .inr (1, [.ref hy, .int (nI k)])), (hy, .inl (cB, 256, .inl (f))), (h2, .inr (1, [.ref hy2, .int (nI k2)])), (hy2, .inl (cB2, 256, .inl (fo)))] [(cB, .byte), (cB2, .byte)] sz)) (va_Qv (fun (_ : Unit) => True) (fun (_ : Unit) t => ∃ (f2 : Nat → Int32), (tx L2 k2 f2) ∧ at_E (dC, dI) (va_A [(h0, .inr (1, [.ref hy, .int (nI k)])), (hy, .inl (cB, 256, .inl (f))), (h2, .inr (1, [.ref hy2, .int (nI k2)])), (hy2, .inl (cB2, 256, .inl (fo)))] sz) [(h0, .inr (1, [.ref hy, .int (nI k2)])), (hy, .inl (cB, 256, .inl (f2))), (h2, .inr (1, [.ref hy2, .int (nI k2)])), (hy2, .inl (cB2, 256, .inl (fo)))] [(cB, .byte), (cB2, .byte)] t) (va_A [(h0, .inr (1, [.ref hy, .int (nI k)])), (hy, .inl (cB, 256, .inl (f))), (h2, .inr (1, [.ref hy2, .int (nI k2)])), (hy2, .inl (cB2, 256, .inl (fo)))] sz)) 0 0 (va_A [(h0, .inr (1, [.ref hy, .int (nI k)])), (hy, .inl (cB, 256, .inl (f))), (h2, .inr (1, [.ref hy2, .int (nI k2)])), (hy2, .inl (cB2, 256, .inl (fo)))] sz) := by
  refine Met.ofW (cc := prog_7_method_7_code) (maxL := 2) (ret := none) (by decide) rfl ?_
  intro p e s m args below meth c s₁ B hml hv
  obtain ⟨rfl, hsz, hP, hK, hD0, hN⟩ := hv
  have hx := B.exec
  have hb := B.bytes
  have hr := B.returns
  have hts := atoms_spec (ws := k_T_become) B.pre
  have hw0 : ∀ w ∈ w0, w.before _ s = true := fun w h => hts w (List.mem_cons_of_mem _ h)
  have hown : s.vm.findClass R_T = some m.cls := findClass_of_methodNamed B.named
  have hlocks := B.notSynchronized
  subst hsz
  have hD := hD0.self (sz := s.heap.size)
  generalize hAe : va_A [(h0, .inr (1, [.ref hy, .int (nI k)])), (hy, .inl (cB, 256, .inl (f))), (h2, .inr (1, [.ref hy2, .int (nI k2)])), (hy2, .inl (cB2, 256, .inl (fo)))] s.heap.size = A at hD ⊢
  have hA : ∀ q : Nat, s.heap.size ≤ q → A q := fun q h => by rw [← hAe]; exact Or.inr h
  have hS : va_S A s.heap s.heap [] := va_S.rf
  have hP : va_P (dC, dI) vwCl [(h0, .inr (1, [.ref hy, .int (nI k)])), (hy, .inl (cB, 256, .inl (f))), (h2, .inr (1, [.ref hy2, .int (nI k2)])), (hy2, .inl (cB2, 256, .inl (fo)))] s.heap := hP
  have hl := lv_entry ([.ref h0, .ref h2]) (n := 2) (Nat.le_of_ble_eq_true rfl)
  rw [lg_entry_eq]
  generalize (lg_sl ([.ref h0, .ref h2]) ++ List.replicate (2 - (lg_sl ([.ref h0, .ref h2])).length) Slot.unset).toArray = ls at hl ⊢
  have hl : lv_has ls 2 [(0, .ref h0), (1, .ref h2)] := hl
  refine lv_aload_n hx hb d_T_become_0 rfl (lv_at hl 1 rfl) ?_
  refine va_get (D := (dC, dI)) (ci := 1) (v := .ref hy2) (C := R_T) (T := F_T) (N := 2) hx hb hw0 in_T hown hK hP 2 rfl rfl 0 (by decide) (hw0 (.fieldLink R_T 9 "TextKeeper$Text" "bytes" "[B") wm_143) (fun _ h9 => h9) rfl d_T_become_1 ?_
  refine lv_iconst (v := 0) hx hb d_T_become_4 (by decide) ?_
  refine lv_aload_n hx hb d_T_become_5 rfl (lv_at hl 0 rfl) ?_
  refine va_get (D := (dC, dI)) (ci := 1) (v := .ref hy) (C := R_T) (T := F_T) (N := 2) hx hb hw0 in_T hown hK hP 0 rfl rfl 0 (by decide) (hw0 (.fieldLink R_T 9 "TextKeeper$Text" "bytes" "[B") wm_143) (fun _ h9 => h9) rfl d_T_become_6 ?_
  refine lv_iconst (v := 0) hx hb d_T_become_9 (by decide) ?_
  refine lv_aload_n hx hb d_T_become_10 rfl (lv_at hl 1 rfl) ?_
  refine va_get (D := (dC, dI)) (ci := 1) (v := .int (nI k2)) (C := R_T) (T := F_T) (N := 2) hx hb hw0 in_T hown hK hP 2 rfl rfl 1 (by decide) (hw0 (.fieldLink R_T 15 "TextKeeper$Text" "length" "I") wm_144) (fun _ h9 => h9) rfl d_T_become_11 ?_
  refine va_copyi (ty := .byte) hx hb (hml.trans hl.1.symm) hown (hw0 (.methodLink R_T 23 ⟨"java/lang/System","arraycopy","(Ljava/lang/Object;ILjava/lang/Object;II)V"⟩) wm_194) (hw0 (.native ⟨"java/lang/System","arraycopy","(Ljava/lang/Object;ILjava/lang/Object;II)V"⟩) wm_195) (hw0 (.static ⟨"java/lang/System","arraycopy","(Ljava/lang/Object;ILjava/lang/Object;II)V"⟩) wm_196) (hw0 (.initialized "java/lang/System") wm_197) hK hP hD hS 3 1 1 0 rfl rfl rfl rfl rfl (by decide +kernel) (by decide +kernel) (nI_pos (by omega)) (by rw [sb_cl0, nI_clamp (by omega)]; omega) (by rw [sb_cl0, nI_clamp (by omega)]; omega) (fun i hi => by rw [nI_clamp (by omega)] at hi; rw [sb_cl0, Nat.zero_add]; exact fits_B (tx_inB htx2 hi)) (Nat.le_of_ble_eq_true rfl) (by decide +kernel) d_T_become_14 (fun H locs hP hD hS => ?_)
  replace hP : va_P (dC, dI) vwCl [(h0, .inr (1, [.ref hy, .int (nI k)])), (hy, .inl (cB, 256, .inl (va_cpy (fo) (f) (Int32.toNatClampNeg 0) (Int32.toNatClampNeg 0) (Int32.toNatClampNeg (nI k2))))), (h2, .inr (1, [.ref hy2, .int (nI k2)])), (hy2, .inl (cB2, 256, .inl (fo)))] H := hP
  replace hD : va_D A [(h0, .inr (1, [.ref hy, .int (nI k)])), (hy, .inl (cB, 256, .inl (va_cpy (fo) (f) (Int32.toNatClampNeg 0) (Int32.toNatClampNeg 0) (Int32.toNatClampNeg (nI k2))))), (h2, .inr (1, [.ref hy2, .int (nI k2)])), (hy2, .inl (cB2, 256, .inl (fo)))] := hD
  have eC : va_cpy (fo) (f) (Int32.toNatClampNeg 0) (Int32.toNatClampNeg 0) (Int32.toNatClampNeg (nI k2)) = va_cpy fo f 0 0 k2 := by rw [sb_cl0, nI_clamp (by omega)]
  rw [eC] at hP hD
  refine lv_aload_n hx hb d_T_become_17 rfl (lv_at hl 0 rfl) ?_
  refine lv_aload_n hx hb d_T_become_18 rfl (lv_at hl 1 rfl) ?_
  refine va_get (D := (dC, dI)) (ci := 1) (v := .int (nI k2)) (C := R_T) (T := F_T) (N := 2) hx hb hw0 in_T hown hK hP 2 rfl rfl 1 (by decide) (hw0 (.fieldLink R_T 15 "TextKeeper$Text" "length" "I") wm_144) (fun _ h9 => h9) rfl d_T_become_19 ?_
  refine va_put (D := (dC, dI)) (ci := 1) (v := .int (nI k2)) (ty := .int) (C := R_T) (T := F_T) (N := 2) hx hb hw0 in_T ft_T tk_T nk_T hown hK hP hD hS 0 rfl rfl 1 (by decide) (hw0 (.fieldLink R_T 15 "TextKeeper$Text" "length" "I") wm_144) (fun _ h9 => h9) rfl (by decide +kernel) rfl rfl (Nat.le_of_ble_eq_true rfl) d_T_become_22 (fun H locs hP hD hS => ?_)
  replace hP : va_P (dC, dI) vwCl [(h0, .inr (1, [.ref hy, .int (nI k2)])), (hy, .inl (cB, 256, .inl ((va_cpy fo f 0 0 k2)))), (h2, .inr (1, [.ref hy2, .int (nI k2)])), (hy2, .inl (cB2, 256, .inl (fo)))] H := hP
  replace hD : va_D A [(h0, .inr (1, [.ref hy, .int (nI k2)])), (hy, .inl (cB, 256, .inl ((va_cpy fo f 0 0 k2)))), (h2, .inr (1, [.ref hy2, .int (nI k2)])), (hy2, .inl (cB2, 256, .inl (fo)))] := hD
  have hP9 := hP.sub (ws' := [(h0, .inr (1, [.ref hy, .int (nI k2)])), (hy, .inl (cB, 256, .inl ((va_cpy fo f 0 0 k2)))), (h2, .inr (1, [.ref hy2, .int (nI k2)])), (hy2, .inl (cB2, 256, .inl (fo)))]) [0, 1, 2, 3] rfl
  have hD9 := hD.sub (ws' := [(h0, .inr (1, [.ref hy, .int (nI k2)])), (hy, .inl (cB, 256, .inl ((va_cpy fo f 0 0 k2)))), (h2, .inr (1, [.ref hy2, .int (nI k2)])), (hy2, .inl (cB2, 256, .inl (fo)))]) [0, 1, 2, 3] (by decide) rfl
  have hK9 := hK.sub (tys' := [(cB, .byte), (cB2, .byte)]) [0, 1] rfl
  exact W.vret hx hb hr (fun t ht hW => ⟨⟨(), rfl, trivial, (va_cpy fo f 0 0 k2), tx_cpy htx2, by rw [ht]; exact hP9, va_K.moved hW.alike hK9, hD9⟩, hS.F ht⟩) hS.2.2 d_T_become_25
set_option maxHeartbeats 4000000 in
set_option maxRecDepth 100000 in
theorem lq_run {p : Program} {l : Launch} {e : Env} {s : State} {m : MethodId} {args : Array Value} {below : List Frame} {meth : Method} {c : Code} {dC : Nat → ClassId} {dI : Nat → Nat → Nat} {Q : State → Prop} {H : Heap} {locs : List Loc} (h0 : Nat) (hy : Nat) (cB : ClassId) (k : Nat) (f : Nat → Int32) (L : List Int32) (h2 : Nat) (hy2 : Nat) (cB2 : ClassId) (k2 : Nat) (fo : Nat → Int32) (L2 : List Int32) (i : Nat) (j0 : Nat) (htx : tx L k f) (htx2 : tx L2 k2 fo) (hk : k ≤ 256) (hk2 : k2 ≤ 256) (hi : i ≤ k) (hj0 : j0 ≤ k2)
    (hx : p.tables.exec = Jvm.exec) (hb : c.code = prog_7_method_9_code) (hml : c.maxLocals = 6) (hown : s.vm.findClass R_T = some m.cls) (hw0 : ∀ w ∈ w0, w.before args s = true) (hN : nw_ok s) (hK : va_K (dC, dI) vwCl [(cB, .byte), (cB2, .byte)] s) (hP : va_P (dC, dI) vwCl [(h0, .inr (1, [.ref hy, .int (nI k)])), (hy, .inl (cB, 256, .inl (f))), (h2, .inr (1, [.ref hy2, .int (nI k2)])), (hy2, .inl (cB2, 256, .inl (fo)))] H)
    (kk : ∀ ls : Array Slot, lv_has ls 6 [(5, .int (nI (cpl (L.drop i) (L2.drop j0)))), (4, .int (nI (min (k - i) (k2 - j0)))), (0, .ref h0), (1, .int (nI i)), (2, .ref h2), (3, .int (nI j0))] → W p l e ({ frames := 1, cells := 0, slots := 0, locals := 24 } : Room) s m args below meth c H locs 0 0 Q (F0 m 54 ls [])) :
    ∀ (n j : Nat), j ≤ (min (k - i) (k2 - j0)) → (min (k - i) (k2 - j0)) < j + n → (∀ t, t < j → (L.drop i).getD t 0 = (L2.drop j0).getD t 0) → ∀ ls : Array Slot, lv_has ls 6 [(5, .int (nI j)), (4, .int (nI (min (k - i) (k2 - j0)))), (0, .ref h0), (1, .int (nI i)), (2, .ref h2), (3, .int (nI j0))] → W p l e ({ frames := 1, cells := 0, slots := 0, locals := 24 } : Room) s m args below meth c H locs 0 0 Q (F0 m 20 ls []) := by
  intro n
  induction n with
  | zero => intro j  h1 h2; exact absurd h2 (by omega)
  | succ n ih =>
    intro j  hj hn hf0 ls hl
    refine lv_iload hx hb d_T_runWith_20 (lv_at hl 0 rfl) ?_
    refine lv_iload hx hb d_T_runWith_22 (lv_at hl 1 rfl) ?_
    refine lv_icmp_ge (tgt := 54) hx hb d_T_runWith_24 (by decide) (fun c_1 => ?_) (fun c_1 => ?_)
    · have e9 : (cpl (L.drop i) (L2.drop j0)) = j := cpl_is (by rw [List.length_drop, htx.1]; omega) (by rw [List.length_drop, htx2.1]; omega) hf0 (by have h9 := x_geN (by omega) hj c_1; rcases Nat.le_total (k - i) (k2 - j0) with q | q; exact Or.inl (by rw [List.length_drop, htx.1]; omega); exact Or.inr (Or.inl (by rw [List.length_drop, htx2.1]; omega)))
      exact kk ls (by rw [e9]; exact (lv_sub hl [0, 1, 2, 3, 4, 5] rfl))
    · have hlt : j < (min (k - i) (k2 - j0)) := x_ltN (by omega) hj c_1
      refine lv_aload_n hx hb d_T_runWith_27 rfl (lv_at hl 2 rfl) ?_
      refine va_get (D := (dC, dI)) (ci := 1) (v := .ref hy) (C := R_T) (T := F_T) (N := 2) hx hb hw0 in_T hown hK hP 0 rfl rfl 0 (by decide) (hw0 (.fieldLink R_T 9 "TextKeeper$Text" "bytes" "[B") wm_143) (fun _ h9 => h9) rfl d_T_runWith_28 ?_
      refine lv_iload_n hx hb d_T_runWith_31 rfl (lv_at hl 3 rfl) ?_
      refine lv_iload hx hb d_T_runWith_32 (lv_at hl 0 rfl) ?_
      refine lv_iadd hx hb d_T_runWith_34 ?_
      refine lv_topi (fun x_2 ex_2 => ?_)
      obtain rfl : x_2 = (nI (i + j)) := by rw [ex_2]; exact nI_add i j
      clear ex_2
      refine va_bald hx hb hK hP 1 0 rfl rfl (vp_in_nI (by omega) (by decide)) d_T_runWith_35 ?_
      refine lv_topi (fun x_3 ex_3 => ?_)
      refine lv_aload_n hx hb d_T_runWith_36 rfl (lv_at hl 4 rfl) ?_
      refine va_get (D := (dC, dI)) (ci := 1) (v := .ref hy2) (C := R_T) (T := F_T) (N := 2) hx hb hw0 in_T hown hK hP 2 rfl rfl 0 (by decide) (hw0 (.fieldLink R_T 9 "TextKeeper$Text" "bytes" "[B") wm_143) (fun _ h9 => h9) rfl d_T_runWith_37 ?_
      refine lv_iload_n hx hb d_T_runWith_40 rfl (lv_at hl 5 rfl) ?_
      refine lv_iload hx hb d_T_runWith_41 (lv_at hl 0 rfl) ?_
      refine lv_iadd hx hb d_T_runWith_43 ?_
      refine lv_topi (fun x_4 ex_4 => ?_)
      obtain rfl : x_4 = (nI (j0 + j)) := by rw [ex_4]; exact nI_add j0 j
      clear ex_4
      refine va_bald hx hb hK hP 3 1 rfl rfl (vp_in_nI (by omega) (by decide)) d_T_runWith_44 ?_
      refine lv_topi (fun x_5 ex_5 => ?_)
      refine lv_icmp_ne (tgt := 54) hx hb d_T_runWith_45 (by decide) (fun c_6 => ?_) (fun c_6 => ?_)
      · have e9 : (cpl (L.drop i) (L2.drop j0)) = j := cpl_is (by rw [List.length_drop, htx.1]; omega) (by rw [List.length_drop, htx2.1]; omega) hf0 (Or.inr (Or.inr (fun h9 => c_6 (by rw [getD_drop, getD_drop] at h9; rw [ex_3, ex_5, nI_clamp (by omega), nI_clamp (by omega), tx_at htx (by omega), tx_at htx2 (by omega)]; exact h9))))
        exact kk ls (by rw [e9]; exact (lv_sub hl [0, 1, 2, 3, 4, 5] rfl))
      · refine lv_iinc (v := nI (j + 1)) (lv' := [(5, .int (nI (j + 1))), (4, .int (nI (min (k - i) (k2 - j0)))), (0, .ref h0), (1, .int (nI i)), (2, .ref h2), (3, .int (nI j0))]) hx hb d_T_runWith_48 hl (k := 0) rfl (nI_1 j) (by decide) rfl (fun ls hl => ?_)
        refine lv_goto (tgt := 20) hx hb d_T_runWith_51 (by decide) ?_
        exact ih (j + 1) hlt (by omega) (fun t ht => by rcases Nat.lt_or_ge t j with q | q; exact hf0 t q; obtain rfl : t = j := (by omega); have h9 := c_6; rw [ex_3, ex_5] at h9; rw [getD_drop, getD_drop]; rw [nI_clamp (by omega), nI_clamp (by omega), tx_at htx (by omega), tx_at htx2 (by omega)] at h9; exact h9) ls (lv_sub hl [0, 1, 2, 3, 4, 5] rfl)
set_option maxHeartbeats 4000000 in
set_option maxRecDepth 100000 in
theorem g_runWith (l : Launch) (dC : Nat → ClassId) (dI : Nat → Nat → Nat) (h0 : Nat) (hy : Nat) (cB : ClassId) (k : Nat) (f : Nat → Int32) (L : List Int32) (h2 : Nat) (hy2 : Nat) (cB2 : ClassId) (k2 : Nat) (fo : Nat → Int32) (L2 : List Int32) (i : Nat) (j0 : Nat) (htx : tx L k f) (htx2 : tx L2 k2 fo) (hk : k ≤ 256) (hk2 : k2 ≤ 256) (hi : i ≤ k) (hj0 : j0 ≤ k2) : Met l y_T_runWith k_T_runWith ({ frames := 1, cells := 0, slots := 0, locals := 24 } : Room) (va_Pc [.ref h0, .int (nI i), .ref h2, .int (nI j0)] (pc_R (dC, dI) [(h0, .inr (1, [.ref hy, .int (nI k)])), (hy, .inl (cB, 256, .inl (f))), (h2, .inr (1, [.ref hy2, .int (nI k2)])), (hy2, .inl (cB2, 256, .inl (fo)))] [(cB, .byte), (cB2, .byte)])) (vp_Si (fun r => r = nI (cpl (L.drop i) (L2.drop j0)))) 0 0 (fun _ => False) := by
  refine Met.ofW (cc := prog_7_method_9_code) (maxL := 6) (ret := (some .int)) (by decide) rfl ?_
  intro p e s m args below meth c s₁ B hml hv
  obtain ⟨rfl, hP, hK, hN⟩ := hv
  have hx := B.exec
  have hb := B.bytes
  have hr := B.returns
  have hts := atoms_spec (ws := k_T_runWith) B.pre
  have hw0 : ∀ w ∈ w0, w.before _ s = true := fun w h => hts w (List.mem_cons_of_mem _ h)
  have hown : s.vm.findClass R_T = some m.cls := findClass_of_methodNamed B.named
  have hlocks := B.notSynchronized
  have hP : va_P (dC, dI) vwCl [(h0, .inr (1, [.ref hy, .int (nI k)])), (hy, .inl (cB, 256, .inl (f))), (h2, .inr (1, [.ref hy2, .int (nI k2)])), (hy2, .inl (cB2, 256, .inl (fo)))] s.heap := hP
  have hl := lv_entry ([.ref h0, .int (nI i), .ref h2, .int (nI j0)]) (n := 6) (Nat.le_of_ble_eq_true rfl)
  rw [lg_entry_eq]
  generalize (lg_sl ([.ref h0, .int (nI i), .ref h2, .int (nI j0)]) ++ List.replicate (6 - (lg_sl ([.ref h0, .int (nI i), .ref h2, .int (nI j0)])).length) Slot.unset).toArray = ls at hl ⊢
  have hl : lv_has ls 6 [(0, .ref h0), (1, .int (nI i)), (2, .ref h2), (3, .int (nI j0))] := hl
  refine lv_aload_n hx hb d_T_runWith_0 rfl (lv_at hl 0 rfl) ?_
  refine va_get (D := (dC, dI)) (ci := 1) (v := .int (nI k)) (C := R_T) (T := F_T) (N := 2) hx hb hw0 in_T hown hK hP 0 rfl rfl 1 (by decide) (hw0 (.fieldLink R_T 15 "TextKeeper$Text" "length" "I") wm_144) (fun _ h9 => h9) rfl d_T_runWith_1 ?_
  refine lv_iload_n hx hb d_T_runWith_4 rfl (lv_at hl 1 rfl) ?_
  refine lv_isub hx hb d_T_runWith_5 ?_
  refine lv_topi (fun x_1 ex_1 => ?_)
  obtain rfl : x_1 = (nI (k - i)) := by rw [ex_1]; exact pk_sub hi
  clear ex_1
  refine lv_aload_n hx hb d_T_runWith_6 rfl (lv_at hl 2 rfl) ?_
  refine va_get (D := (dC, dI)) (ci := 1) (v := .int (nI k2)) (C := R_T) (T := F_T) (N := 2) hx hb hw0 in_T hown hK hP 2 rfl rfl 1 (by decide) (hw0 (.fieldLink R_T 15 "TextKeeper$Text" "length" "I") wm_144) (fun _ h9 => h9) rfl d_T_runWith_7 ?_
  refine lv_iload_n hx hb d_T_runWith_10 rfl (lv_at hl 3 rfl) ?_
  refine lv_isub hx hb d_T_runWith_11 ?_
  refine lv_topi (fun x_2 ex_2 => ?_)
  obtain rfl : x_2 = (nI (k2 - j0)) := by rw [ex_2]; exact pk_sub hj0
  clear ex_2
  refine va_mmin hx hb (hml.trans hl.1.symm) hown (hw0 (.methodLink R_T 29 ⟨"java/lang/Math","min","(II)I"⟩) wm_199) (hw0 (.static ⟨"java/lang/Math","min","(II)I"⟩) wm_200) (hw0 (.initialized "java/lang/Math") wm_201) (hw0 (.code Lib.Math.min.name Lib.Math.min.code 2 (some .int)) (List.mem_of_getElem? (i := 198) rfl)) (Nat.le_of_ble_eq_true rfl) (Nat.le_of_ble_eq_true rfl) (by decide +kernel) (by decide +kernel) d_T_runWith_12 ?_
  refine lv_topi (fun x_3 ex_3 => ?_)
  obtain rfl : x_3 = (nI (min (k - i) (k2 - j0))) := ex_3.trans (x_min (a := (k - i)) (b := (k2 - j0)) (by omega) (by omega))
  clear ex_3
  refine lv_istore (lv' := [(4, .int (nI (min (k - i) (k2 - j0)))), (0, .ref h0), (1, .int (nI i)), (2, .ref h2), (3, .int (nI j0))]) hx hb d_T_runWith_15 hl (by decide) rfl (fun ls hl => ?_)
  refine lv_iconst (v := 0) hx hb d_T_runWith_17 (by decide) ?_
  refine lv_istore (lv' := [(5, .int 0), (4, .int (nI (min (k - i) (k2 - j0)))), (0, .ref h0), (1, .int (nI i)), (2, .ref h2), (3, .int (nI j0))]) hx hb d_T_runWith_18 hl (by decide) rfl (fun ls hl => ?_)
  refine lq_run h0 hy cB k f L h2 hy2 cB2 k2 fo L2 i j0 htx htx2 hk hk2 hi hj0 hx hb hml hown hw0 hN hK hP (fun ls hl => ?_) ((min (k - i) (k2 - j0)) + 1) 0 (by omega) (by omega) (fun t ht => absurd ht (Nat.not_lt_zero t)) ls (lv_sub hl [0, 1, 2, 3, 4, 5] rfl)
  refine lv_iload hx hb d_T_runWith_54 (lv_at hl 0 rfl) ?_
  exact W.iret (v := (nI (cpl (L.drop i) (L2.drop j0)))) hx hb hr (fun t ht hW => ⟨(nI (cpl (L.drop i) (L2.drop j0))), rfl, rfl, ht⟩) (fun q h => by cases h) d_T_runWith_56
end
section
set_option maxHeartbeats 4000000 in
set_option maxRecDepth 100000 in
theorem g_writeByte (l : Launch) (dC : Nat → ClassId) (dI : Nat → Nat → Nat) (sz : Nat) (h0 : Nat) (hrw : Nat) (cR : ClassId) (q : Nat) (g : Nat → Int32) (P : List Int32) (a1 : Int32) (hp : tx P q g) (hq : q < 512) : Met l y_W_writeByte k_W_writeByte ({ frames := 0, cells := 0, slots := 0, locals := 0 } : Room) (va_Pc [.ref h0, .int a1] (pc_E (dC, dI) [(h0, .inr (3, [.ref hrw, .int (nI q)])), (hrw, .inl (cR, 512, .inl (g)))] [(cR, .byte)] sz)) (va_Qv (fun (_ : Unit) => True) (fun (_ : Unit) t => ∃ (g2 : Nat → Int32), (tx (P ++ [nbb a1]) (q + 1) g2) ∧ at_E (dC, dI) (va_A [(h0, .inr (3, [.ref hrw, .int (nI q)])), (hrw, .inl (cR, 512, .inl (g)))] sz) [(h0, .inr (3, [.ref hrw, .int (nI (q + 1))])), (hrw, .inl (cR, 512, .inl (g2)))] [(cR, .byte)] t) (va_A [(h0, .inr (3, [.ref hrw, .int (nI q)])), (hrw, .inl (cR, 512, .inl (g)))] sz)) 0 0 (va_A [(h0, .inr (3, [.ref hrw, .int (nI q)])), (hrw, .inl (cR, 512, .inl (g)))] sz) := by
  refine Met.ofW (cc := prog_4_method_8_code) (maxL := 2) (ret := none) (by decide) rfl ?_
  intro p e s m args below meth c s₁ B hml hv
  obtain ⟨rfl, hsz, hP, hK, hD0, hN⟩ := hv
  have hx := B.exec
  have hb := B.bytes
  have hr := B.returns
  have hts := atoms_spec (ws := k_W_writeByte) B.pre
  have hw0 : ∀ w ∈ w0, w.before _ s = true := fun w h => hts w (List.mem_cons_of_mem _ h)
  have hown : s.vm.findClass R_W = some m.cls := findClass_of_methodNamed B.named
  have hlocks := B.notSynchronized
  subst hsz
  have hD := hD0.self (sz := s.heap.size)
  generalize hAe : va_A [(h0, .inr (3, [.ref hrw, .int (nI q)])), (hrw, .inl (cR, 512, .inl (g)))] s.heap.size = A at hD ⊢
  have hA : ∀ q : Nat, s.heap.size ≤ q → A q := fun q h => by rw [← hAe]; exact Or.inr h
  have hS : va_S A s.heap s.heap [] := va_S.rf
  have hP : va_P (dC, dI) vwCl [(h0, .inr (3, [.ref hrw, .int (nI q)])), (hrw, .inl (cR, 512, .inl (g)))] s.heap := hP
  have hl := lv_entry ([.ref h0, .int a1]) (n := 2) (Nat.le_of_ble_eq_true rfl)
  rw [lg_entry_eq]
  generalize (lg_sl ([.ref h0, .int a1]) ++ List.replicate (2 - (lg_sl ([.ref h0, .int a1])).length) Slot.unset).toArray = ls at hl ⊢
  have hl : lv_has ls 2 [(0, .ref h0), (1, .int a1)] := hl
  refine lv_aload_n hx hb d_W_writeByte_0 rfl (lv_at hl 0 rfl) ?_
  refine va_get (D := (dC, dI)) (ci := 3) (v := .int (nI q)) (C := R_W) (T := F_W) (N := 2) hx hb hw0 in_W hown hK hP 0 rfl rfl 1 (by decide) (hw0 (.fieldLink R_W 15 "TextKeeper$PieceWriter" "length" "I") wm_147) (fun _ h9 => h9) rfl d_W_writeByte_1 ?_
  refine lv_aload_n hx hb d_W_writeByte_4 rfl (lv_at hl 0 rfl) ?_
  refine va_get (D := (dC, dI)) (ci := 3) (v := .ref hrw) (C := R_W) (T := F_W) (N := 2) hx hb hw0 in_W hown hK hP 0 rfl rfl 0 (by decide) (hw0 (.fieldLink R_W 9 "TextKeeper$PieceWriter" "row" "[B") wm_146) (fun _ h9 => h9) rfl d_W_writeByte_5 ?_
  refine va_alen (v := 512) hx hb hK hP 1 0 rfl rfl (show Int32.ofNat 512 = 512 from by decide +kernel) d_W_writeByte_8 ?_
  refine lv_icmp_ge (tgt := 33) hx hb d_W_writeByte_9 (by decide) (fun c_1 => absurd c_1 (nI_ge hq (by decide))) (fun c_1 => ?_)
  refine lv_aload_n hx hb d_W_writeByte_12 rfl (lv_at hl 0 rfl) ?_
  refine va_get (D := (dC, dI)) (ci := 3) (v := .ref hrw) (C := R_W) (T := F_W) (N := 2) hx hb hw0 in_W hown hK hP 0 rfl rfl 0 (by decide) (hw0 (.fieldLink R_W 9 "TextKeeper$PieceWriter" "row" "[B") wm_146) (fun _ h9 => h9) rfl d_W_writeByte_13 ?_
  refine lv_aload_n hx hb d_W_writeByte_16 rfl (lv_at hl 0 rfl) ?_
  refine va_get (D := (dC, dI)) (ci := 3) (v := .int (nI q)) (C := R_W) (T := F_W) (N := 2) hx hb hw0 in_W hown hK hP 0 rfl rfl 1 (by decide) (hw0 (.fieldLink R_W 15 "TextKeeper$PieceWriter" "length" "I") wm_147) (fun _ h9 => h9) rfl d_W_writeByte_17 ?_
  refine lv_iload_n hx hb d_W_writeByte_20 rfl (lv_at hl 1 rfl) ?_
  obtain ⟨x_2, ex_2⟩ : ∃ y : Int32, a1.toInt8.toInt32 = y := ⟨_, rfl⟩
  refine lv_i2b (v := x_2) hx hb d_W_writeByte_21 ex_2 ?_
  refine va_bast hx hb hK hP hD hS 1 0 rfl rfl (vp_in_nI hq (by decide)) d_W_writeByte_22 (fun H locs hP hD hS => ?_)
  replace hP : va_P (dC, dI) vwCl [(h0, .inr (3, [.ref hrw, .int (nI q)])), (hrw, .inl (cR, 512, .inl (upd (g) (Int32.toNatClampNeg (nI q)) (vp_nar .byte (x_2)))))] H := hP
  replace hD : va_D A [(h0, .inr (3, [.ref hrw, .int (nI q)])), (hrw, .inl (cR, 512, .inl (upd (g) (Int32.toNatClampNeg (nI q)) (vp_nar .byte (x_2)))))] := hD
  have eS : upd (g) (Int32.toNatClampNeg (nI q)) (vp_nar .byte (x_2)) = upd g q (nbb a1) := by rw [nI_clamp (by omega), ← ex_2]; exact congrArg (upd g q) (pk_vb a1)
  rw [eS] at hP hD
  refine lv_aload_n hx hb d_W_writeByte_23 rfl (lv_at hl 0 rfl) ?_
  refine lv_dup hx hb d_W_writeByte_24 rfl ?_
  refine va_get (D := (dC, dI)) (ci := 3) (v := .int (nI q)) (C := R_W) (T := F_W) (N := 2) hx hb hw0 in_W hown hK hP 0 rfl rfl 1 (by decide) (hw0 (.fieldLink R_W 15 "TextKeeper$PieceWriter" "length" "I") wm_147) (fun _ h9 => h9) rfl d_W_writeByte_25 ?_
  refine lv_iconst (v := 1) hx hb d_W_writeByte_28 (by decide) ?_
  refine lv_iadd hx hb d_W_writeByte_29 ?_
  refine lv_topi (fun x_3 ex_3 => ?_)
  obtain rfl : x_3 = (nI (q + 1)) := by rw [ex_3]; exact nI_1 q
  clear ex_3
  refine va_put (D := (dC, dI)) (ci := 3) (v := .int (nI (q + 1))) (ty := .int) (C := R_W) (T := F_W) (N := 2) hx hb hw0 in_W ft_W tk_W nk_W hown hK hP hD hS 0 rfl rfl 1 (by decide) (hw0 (.fieldLink R_W 15 "TextKeeper$PieceWriter" "length" "I") wm_147) (fun _ h9 => h9) rfl (by decide +kernel) rfl rfl (Nat.le_of_ble_eq_true rfl) d_W_writeByte_30 (fun H locs hP hD hS => ?_)
  replace hP : va_P (dC, dI) vwCl [(h0, .inr (3, [.ref hrw, .int (nI (q + 1))])), (hrw, .inl (cR, 512, .inl ((upd g q (nbb a1)))))] H := hP
  replace hD : va_D A [(h0, .inr (3, [.ref hrw, .int (nI (q + 1))])), (hrw, .inl (cR, 512, .inl ((upd g q (nbb a1)))))] := hD
  have hP9 := hP.sub (ws' := [(h0, .inr (3, [.ref hrw, .int (nI (q + 1))])), (hrw, .inl (cR, 512, .inl ((upd g q (nbb a1)))))]) [0, 1] rfl
  have hD9 := hD.sub (ws' := [(h0, .inr (3, [.ref hrw, .int (nI (q + 1))])), (hrw, .inl (cR, 512, .inl ((upd g q (nbb a1)))))]) [0, 1] (by decide) rfl
  have hK9 := hK.sub (tys' := [(cR, .byte)]) [0] rfl
  exact W.vret hx hb hr (fun t ht hW => ⟨⟨(), rfl, trivial, (upd g q (nbb a1)), tx_push hp (nbb_B a1), by rw [ht]; exact hP9, va_K.moved hW.alike hK9, hD9⟩, hS.F ht⟩) hS.2.2 d_W_writeByte_33
set_option maxHeartbeats 4000000 in
set_option maxRecDepth 100000 in
theorem g_digitsOf (l : Launch) (dC : Nat → ClassId) (dI : Nat → Nat → Nat) (n : Nat) (hn : n < 16384) : Met l y_W_digitsOf k_W_digitsOf ({ frames := 0, cells := 0, slots := 0, locals := 0 } : Room) (va_Pc [.int (nI n)] (pc_R (dC, dI) [] [])) (vp_Si (fun r => r = nI (dgt n))) 0 0 (fun _ => False) := by
  refine Met.ofW (cc := prog_4_method_7_code) (maxL := 3) (ret := (some .int)) (by decide) rfl ?_
  intro p e s m args below meth c s₁ B hml hv
  obtain ⟨rfl, hP, hK, hN⟩ := hv
  have hx := B.exec
  have hb := B.bytes
  have hr := B.returns
  have hts := atoms_spec (ws := k_W_digitsOf) B.pre
  have hw0 : ∀ w ∈ w0, w.before _ s = true := fun w h => hts w (List.mem_cons_of_mem _ h)
  have hown : s.vm.findClass R_W = some m.cls := findClass_of_methodNamed B.named
  have hlocks := B.notSynchronized
  have hP : va_P (dC, dI) vwCl [] s.heap := hP
  have hl := lv_entry ([.int (nI n)]) (n := 3) (Nat.le_of_ble_eq_true rfl)
  rw [lg_entry_eq]
  generalize (lg_sl ([.int (nI n)]) ++ List.replicate (3 - (lg_sl ([.int (nI n)])).length) Slot.unset).toArray = ls at hl ⊢
  have hl : lv_has ls 3 [(0, .int (nI n))] := hl
  refine lv_iconst (v := 1) hx hb d_W_digitsOf_0 (by decide) ?_
  refine lv_istore_n (lv' := [(1, .int 1), (0, .int (nI n))]) hx hb d_W_digitsOf_1 rfl hl (by decide) rfl (fun ls hl => ?_)
  refine lv_iload_n hx hb d_W_digitsOf_2 rfl (lv_at hl 1 rfl) ?_
  refine lv_sipush (v := 128) hx hb d_W_digitsOf_3 (by decide +kernel) ?_
  refine lv_idiv hx hb d_W_digitsOf_6 (by decide +kernel) ?_
  refine lv_topi (fun x_1 ex_1 => ?_)
  obtain rfl : x_1 = (nI (n / 128)) := by rw [ex_1]; exact (show nI (n) / nI 128 = nI (n / 128) from pk_div (by omega) (by decide) (by decide))
  clear ex_1
  refine lv_istore_n (lv' := [(2, .int (nI (n / 128))), (1, .int 1), (0, .int (nI n))]) hx hb d_W_digitsOf_7 rfl hl (by decide) rfl (fun ls hl => ?_)
  refine lv_iload_n hx hb d_W_digitsOf_8 rfl (lv_at hl 0 rfl) ?_
  refine lv_if_le (tgt := 24) hx hb d_W_digitsOf_9 (by decide) (fun c_2 => ?_) (fun c_2 => ?_)
  · refine lv_iload_n hx hb d_W_digitsOf_24 rfl (lv_at hl 1 rfl) ?_
    exact W.iret (v := 1) hx hb hr (fun t ht hW => ⟨1, rfl, (by have h9 := mt (fun q => nI_nle (n := n / 128) q (by omega)) (fun q => q c_2); rw [dgt, if_pos (by omega)]; rfl), ht⟩) (fun q h => by cases h) d_W_digitsOf_25
  · refine lv_iinc (v := 2) (lv' := [(1, .int 2), (2, .int (nI (n / 128))), (0, .int (nI n))]) hx hb d_W_digitsOf_12 hl (k := 1) rfl (by decide +kernel) (by decide) rfl (fun ls hl => ?_)
    refine lv_iload_n hx hb d_W_digitsOf_15 rfl (lv_at hl 1 rfl) ?_
    refine lv_sipush (v := 128) hx hb d_W_digitsOf_16 (by decide +kernel) ?_
    refine lv_idiv hx hb d_W_digitsOf_19 (by decide +kernel) ?_
    refine lv_topi (fun x_3 ex_3 => ?_)
    obtain rfl : x_3 = (nI (n / 128 / 128)) := by rw [ex_3]; exact (show nI (n / 128) / nI 128 = nI (n / 128 / 128) from pk_div (by omega) (by decide) (by decide))
    clear ex_3
    refine lv_istore_n (lv' := [(2, .int (nI (n / 128 / 128))), (1, .int 2), (0, .int (nI n))]) hx hb d_W_digitsOf_20 rfl hl (by decide) rfl (fun ls hl => ?_)
    refine lv_goto (tgt := 8) hx hb d_W_digitsOf_21 (by decide) ?_
    refine lv_iload_n hx hb d_W_digitsOf_8 rfl (lv_at hl 0 rfl) ?_
    refine lv_if_le (tgt := 24) hx hb d_W_digitsOf_9 (by decide) (fun c_4 => ?_) (fun c_4 => absurd (show nI (n / 128 / 128) ≤ nI 0 from nI_le (by omega) (by decide)) c_4)
    refine lv_iload_n hx hb d_W_digitsOf_24 rfl (lv_at hl 1 rfl) ?_
    exact W.iret (v := 2) hx hb hr (fun t ht hW => ⟨2, rfl, (by have h9 : ¬ n / 128 = 0 := fun q => c_2 (by rw [q]; decide); rw [dgt, if_neg (by omega)]; rfl), ht⟩) (fun q h => by cases h) d_W_digitsOf_25
set_option maxHeartbeats 4000000 in
set_option maxRecDepth 100000 in
theorem g_writeNumber (l : Launch) (dC : Nat → ClassId) (dI : Nat → Nat → Nat) (sz : Nat) (h0 : Nat) (hrw : Nat) (cR : ClassId) (q : Nat) (g : Nat → Int32) (P : List Int32) (n : Nat) (hp : tx P q g) (hn : n < 16384) (hq : q + dgt n ≤ 512) : Met l y_W_writeNumber k_W_writeNumber ({ frames := 1, cells := 0, slots := 0, locals := 22 } : Room) (va_Pc [.ref h0, .int (nI n)] (pc_E (dC, dI) [(h0, .inr (3, [.ref hrw, .int (nI q)])), (hrw, .inl (cR, 512, .inl (g)))] [(cR, .byte)] sz)) (va_Qv (fun (_ : Unit) => True) (fun (_ : Unit) t => ∃ (q2 : Nat) (g2 : Nat → Int32), (q2 = q + dgt n ∧ tx (P ++ encN n) q2 g2) ∧ at_E (dC, dI) (va_A [(h0, .inr (3, [.ref hrw, .int (nI q)])), (hrw, .inl (cR, 512, .inl (g)))] sz) [(h0, .inr (3, [.ref hrw, .int (nI q2)])), (hrw, .inl (cR, 512, .inl (g2)))] [(cR, .byte)] t) (va_A [(h0, .inr (3, [.ref hrw, .int (nI q)])), (hrw, .inl (cR, 512, .inl (g)))] sz)) 0 0 (va_A [(h0, .inr (3, [.ref hrw, .int (nI q)])), (hrw, .inl (cR, 512, .inl (g)))] sz) := by
  refine Met.ofW (cc := prog_4_method_6_code) (maxL := 4) (ret := none) (by decide) rfl ?_
  intro p e s m args below meth c s₁ B hml hv
  obtain ⟨rfl, hsz, hP, hK, hD0, hN⟩ := hv
  have hx := B.exec
  have hb := B.bytes
  have hr := B.returns
  have hts := atoms_spec (ws := k_W_writeNumber) B.pre
  have hw0 : ∀ w ∈ w0, w.before _ s = true := fun w h => hts w (List.mem_cons_of_mem _ h)
  have hown : s.vm.findClass R_W = some m.cls := findClass_of_methodNamed B.named
  have hlocks := B.notSynchronized
  subst hsz
  have hD := hD0.self (sz := s.heap.size)
  generalize hAe : va_A [(h0, .inr (3, [.ref hrw, .int (nI q)])), (hrw, .inl (cR, 512, .inl (g)))] s.heap.size = A at hD ⊢
  have hA : ∀ q : Nat, s.heap.size ≤ q → A q := fun q h => by rw [← hAe]; exact Or.inr h
  have hS : va_S A s.heap s.heap [] := va_S.rf
  have hP : va_P (dC, dI) vwCl [(h0, .inr (3, [.ref hrw, .int (nI q)])), (hrw, .inl (cR, 512, .inl (g)))] s.heap := hP
  have hl := lv_entry ([.ref h0, .int (nI n)]) (n := 4) (Nat.le_of_ble_eq_true rfl)
  rw [lg_entry_eq]
  generalize (lg_sl ([.ref h0, .int (nI n)]) ++ List.replicate (4 - (lg_sl ([.ref h0, .int (nI n)])).length) Slot.unset).toArray = ls at hl ⊢
  have hl : lv_has ls 4 [(0, .ref h0), (1, .int (nI n))] := hl
  have hd := dgt_le n
  refine lv_iload_n hx hb d_W_writeNumber_0 rfl (lv_at hl 1 rfl) ?_
  refine lv_istore_n (lv' := [(2, .int (nI n)), (0, .ref h0), (1, .int (nI n))]) hx hb d_W_writeNumber_1 rfl hl (by decide) rfl (fun ls hl => ?_)
  refine lv_iload_n hx hb d_W_writeNumber_2 rfl (lv_at hl 2 rfl) ?_
  have hPc := hP.sub (ws' := []) [] rfl
  have hKc := hK.sub (tys' := []) [] rfl
  refine ps_i (va_runS (As := [.int (nI n)]) (rest := []) ⟨hx, hb, hml, hown, hw0⟩ (g_digitsOf l dC dI n (by first | assumption | decide | omega)) (va_cwS 1 hw0 (gd_S 202 203 176 204 rfl rfl rfl rfl) rfl rfl rfl (by decide +kernel) ⟨by decide +kernel, by decide +kernel⟩) (prS_R hPc hKc hN) rfl rfl hl.1 rfl (lv_room (Nat.le_of_ble_eq_true rfl)) d_W_writeNumber_3 ⟨by decide +kernel, by decide +kernel⟩) (fun r_1 hr_1 => ?_)
  obtain rfl : r_1 = (nI (dgt n)) := hr_1
  refine lv_istore_n (lv' := [(3, .int (nI (dgt n))), (2, .int (nI n)), (0, .ref h0), (1, .int (nI n))]) hx hb d_W_writeNumber_6 rfl hl (by decide) rfl (fun ls hl => ?_)
  refine lv_iload_n hx hb d_W_writeNumber_7 rfl (lv_at hl 0 rfl) ?_
  refine lv_iconst (v := 1) hx hb d_W_writeNumber_8 (by decide) ?_
  refine lv_icmp_le (tgt := 37) hx hb d_W_writeNumber_9 (by decide) (fun c_2 => ?_) (fun c_2 => ?_)
  · refine lv_aload_n hx hb d_W_writeNumber_37 rfl (lv_at hl 2 rfl) ?_
    refine lv_iload_n hx hb d_W_writeNumber_38 rfl (lv_at hl 1 rfl) ?_
    have hPc := hP.sub (ws' := [(h0, .inr (3, [.ref hrw, .int (nI q)])), (hrw, .inl (cR, 512, .inl ((g))))]) [0, 1] rfl
    have hKc := hK.sub (tys' := [(cR, .byte)]) [0] rfl
    have hDc := hD.sub (ws' := [(h0, .inr (3, [.ref hrw, .int (nI q)])), (hrw, .inl (cR, 512, .inl ((g))))]) [0, 1] (by decide) rfl
    have hFc := va_free (wc := [(h0, .inr (3, [.ref hrw, .int (nI q)])), (hrw, .inl (cR, 512, .inl ((g))))]) hD hS hA [0, 1] rfl
    refine va_callv (va_runV (As := [.int (nI n)]) (rest := []) ⟨hx, hb, hml, hown, hw0⟩ (g_writeByte l dC dI s.heap.size h0 hrw cR q (g) _ (nI n) (by first | assumption | decide | omega) (by first | assumption | decide | omega)) (cwV 1 hw0 (gd_Vm wm_205 wm_206 wm_207 wm_176 wm_208) rfl rfl rfl (by decide +kernel) ⟨by decide +kernel, by decide +kernel⟩) (prV_E hPc hKc hDc hN (va_recv hKc hPc (ci := 3) (q0 := 0) rfl rfl)) rfl rfl hl.1 rfl (lv_room (Nat.le_of_ble_eq_true rfl)) d_W_writeNumber_39 ⟨by decide +kernel, by decide +kernel⟩) hS (fun q _ h => hFc q h) hFc (fun u t H1 locs ht hvm hw hB hz1 hk1 hS => ?_)
    obtain ⟨g2_3, hu_4, hP1, hK1, hD1⟩ := hB
    rw [ht] at hP1
    have hK1 := va_K.moved hvm.symm hK1
    try dsimp only at hw
    obtain ⟨hP, hD⟩ := va_join (wr := []) (w1 := [(h0, .inr (3, [.ref hrw, .int (nI (q + 1))])), (hrw, .inl (cR, 512, .inl (g2_3)))]) hP hD [0, 1] [] rfl rfl (by decide) (by decide) hk1 hFc hP1 hD1
    generalize H1 = H at hP hS ⊢
    replace hP : va_P (dC, dI) vwCl [(h0, .inr (3, [.ref hrw, .int (nI (q + 1))])), (hrw, .inl (cR, 512, .inl (g2_3)))] H := hP
    replace hD : va_D A [(h0, .inr (3, [.ref hrw, .int (nI (q + 1))])), (hrw, .inl (cR, 512, .inl (g2_3)))] := hD
    replace hK : va_K (dC, dI) vwCl [(cR, .byte)] s := hK
    have hP9 := hP.sub (ws' := [(h0, .inr (3, [.ref hrw, .int (nI (q + 1))])), (hrw, .inl (cR, 512, .inl (g2_3)))]) [0, 1] rfl
    have hD9 := hD.sub (ws' := [(h0, .inr (3, [.ref hrw, .int (nI (q + 1))])), (hrw, .inl (cR, 512, .inl (g2_3)))]) [0, 1] (by decide) rfl
    have hK9 := hK.sub (tys' := [(cR, .byte)]) [0] rfl
    exact W.vret hx hb hr (fun t ht hW => ⟨⟨(), rfl, trivial, (q + 1), g2_3, (x_en1 c_2 hu_4), by rw [ht]; exact hP9, va_K.moved hW.alike hK9, hD9⟩, hS.F ht⟩) hS.2.2 d_W_writeNumber_42
  · have hd2 : dgt n = 2 := x_dg2 c_2
    refine lv_aload_n hx hb d_W_writeNumber_12 rfl (lv_at hl 2 rfl) ?_
    refine lv_iload_n hx hb d_W_writeNumber_13 rfl (lv_at hl 1 rfl) ?_
    refine lv_sipush (v := 128) hx hb d_W_writeNumber_14 (by decide +kernel) ?_
    refine lv_irem hx hb d_W_writeNumber_17 (by decide +kernel) ?_
    refine lv_topi (fun x_5 ex_5 => ?_)
    obtain rfl : x_5 = (nI (n % 128)) := by rw [ex_5]; exact (show nI n - nI n / nI 128 * nI 128 = nI (n % 128) from pk_rem (by omega) (by decide) (by decide))
    clear ex_5
    refine lv_sipush (v := 128) hx hb d_W_writeNumber_18 (by decide +kernel) ?_
    refine lv_iadd hx hb d_W_writeNumber_21 ?_
    refine lv_topi (fun x_6 ex_6 => ?_)
    obtain rfl : x_6 = (nI (n % 128 + 128)) := by rw [ex_6]; exact nI_add (n % 128) 128
    clear ex_6
    have hPc := hP.sub (ws' := [(h0, .inr (3, [.ref hrw, .int (nI q)])), (hrw, .inl (cR, 512, .inl ((g))))]) [0, 1] rfl
    have hKc := hK.sub (tys' := [(cR, .byte)]) [0] rfl
    have hDc := hD.sub (ws' := [(h0, .inr (3, [.ref hrw, .int (nI q)])), (hrw, .inl (cR, 512, .inl ((g))))]) [0, 1] (by decide) rfl
    have hFc := va_free (wc := [(h0, .inr (3, [.ref hrw, .int (nI q)])), (hrw, .inl (cR, 512, .inl ((g))))]) hD hS hA [0, 1] rfl
    refine va_callv (va_runV (As := [.int (nI (n % 128 + 128))]) (rest := []) ⟨hx, hb, hml, hown, hw0⟩ (g_writeByte l dC dI s.heap.size h0 hrw cR q (g) _ (nI (n % 128 + 128)) (by first | assumption | decide | omega) (by first | assumption | decide | omega)) (cwV 1 hw0 (gd_Vm wm_205 wm_206 wm_207 wm_176 wm_208) rfl rfl rfl (by decide +kernel) ⟨by decide +kernel, by decide +kernel⟩) (prV_E hPc hKc hDc hN (va_recv hKc hPc (ci := 3) (q0 := 0) rfl rfl)) rfl rfl hl.1 rfl (lv_room (Nat.le_of_ble_eq_true rfl)) d_W_writeNumber_22 ⟨by decide +kernel, by decide +kernel⟩) hS (fun q _ h => hFc q h) hFc (fun u t H1 locs ht hvm hw hB hz1 hk1 hS => ?_)
    obtain ⟨g2_7, hu_8, hP1, hK1, hD1⟩ := hB
    rw [ht] at hP1
    have hK1 := va_K.moved hvm.symm hK1
    try dsimp only at hw
    obtain ⟨hP, hD⟩ := va_join (wr := []) (w1 := [(h0, .inr (3, [.ref hrw, .int (nI (q + 1))])), (hrw, .inl (cR, 512, .inl (g2_7)))]) hP hD [0, 1] [] rfl rfl (by decide) (by decide) hk1 hFc hP1 hD1
    generalize H1 = H at hP hS ⊢
    replace hP : va_P (dC, dI) vwCl [(h0, .inr (3, [.ref hrw, .int (nI (q + 1))])), (hrw, .inl (cR, 512, .inl (g2_7)))] H := hP
    replace hD : va_D A [(h0, .inr (3, [.ref hrw, .int (nI (q + 1))])), (hrw, .inl (cR, 512, .inl (g2_7)))] := hD
    replace hK : va_K (dC, dI) vwCl [(cR, .byte)] s := hK
    refine lv_iload_n hx hb d_W_writeNumber_25 rfl (lv_at hl 1 rfl) ?_
    refine lv_sipush (v := 128) hx hb d_W_writeNumber_26 (by decide +kernel) ?_
    refine lv_idiv hx hb d_W_writeNumber_29 (by decide +kernel) ?_
    refine lv_topi (fun x_9 ex_9 => ?_)
    obtain rfl : x_9 = (nI (n / 128)) := by rw [ex_9]; exact (show nI (n) / nI 128 = nI (n / 128) from pk_div (by omega) (by decide) (by decide))
    clear ex_9
    refine lv_istore_n (lv' := [(2, .int (nI (n / 128))), (3, .int (nI (dgt n))), (0, .ref h0), (1, .int (nI n))]) hx hb d_W_writeNumber_30 rfl hl (by decide) rfl (fun ls hl => ?_)
    obtain ⟨x_10, ex_10⟩ : ∃ y : Int32, y = (nI (dgt n)) + (-1) := ⟨_, rfl⟩
    refine lv_iinc (v := x_10) (lv' := [(3, .int x_10), (2, .int (nI (n / 128))), (0, .ref h0), (1, .int (nI n))]) hx hb d_W_writeNumber_31 hl (k := 1) rfl (by rw [ex_10]; rfl) (by decide) rfl (fun ls hl => ?_)
    refine lv_goto (tgt := 7) hx hb d_W_writeNumber_34 (by decide) ?_
    refine lv_iload_n hx hb d_W_writeNumber_7 rfl (lv_at hl 0 rfl) ?_
    refine lv_iconst (v := 1) hx hb d_W_writeNumber_8 (by decide) ?_
    refine lv_icmp_le (tgt := 37) hx hb d_W_writeNumber_9 (by decide) (fun c_11 => ?_) (fun c_11 => absurd (x_dg ex_10) c_11)
    refine lv_aload_n hx hb d_W_writeNumber_37 rfl (lv_at hl 2 rfl) ?_
    refine lv_iload_n hx hb d_W_writeNumber_38 rfl (lv_at hl 1 rfl) ?_
    have hPc := hP.sub (ws' := [(h0, .inr (3, [.ref hrw, .int (nI (q + 1))])), (hrw, .inl (cR, 512, .inl ((g2_7))))]) [0, 1] rfl
    have hKc := hK.sub (tys' := [(cR, .byte)]) [0] rfl
    have hDc := hD.sub (ws' := [(h0, .inr (3, [.ref hrw, .int (nI (q + 1))])), (hrw, .inl (cR, 512, .inl ((g2_7))))]) [0, 1] (by decide) rfl
    have hFc := va_free (wc := [(h0, .inr (3, [.ref hrw, .int (nI (q + 1))])), (hrw, .inl (cR, 512, .inl ((g2_7))))]) hD hS hA [0, 1] rfl
    refine va_callv (va_runV (As := [.int (nI (n / 128))]) (rest := []) ⟨hx, hb, hml, hown, hw0⟩ (g_writeByte l dC dI H.size h0 hrw cR (q + 1) (g2_7) _ (nI (n / 128)) (by first | assumption | decide | omega) (by first | assumption | decide | omega)) (cwV 1 hw0 (gd_Vm wm_205 wm_206 wm_207 wm_176 wm_208) rfl rfl rfl (by decide +kernel) ⟨by decide +kernel, by decide +kernel⟩) (prV_E hPc hKc hDc hN (va_recv hKc hPc (ci := 3) (q0 := 0) rfl rfl)) rfl rfl hl.1 rfl (lv_room (Nat.le_of_ble_eq_true rfl)) d_W_writeNumber_39 ⟨by decide +kernel, by decide +kernel⟩) hS (fun q _ h => hFc q h) hFc (fun u t H1 locs ht hvm hw hB hz1 hk1 hS => ?_)
    obtain ⟨g2_12, hu_13, hP1, hK1, hD1⟩ := hB
    rw [ht] at hP1
    have hK1 := va_K.moved hvm.symm hK1
    try dsimp only at hw
    obtain ⟨hP, hD⟩ := va_join (wr := []) (w1 := [(h0, .inr (3, [.ref hrw, .int (nI ((q + 1) + 1))])), (hrw, .inl (cR, 512, .inl (g2_12)))]) hP hD [0, 1] [] rfl rfl (by decide) (by decide) hk1 hFc hP1 hD1
    generalize H1 = H at hP hS ⊢
    replace hP : va_P (dC, dI) vwCl [(h0, .inr (3, [.ref hrw, .int (nI ((q + 1) + 1))])), (hrw, .inl (cR, 512, .inl (g2_12)))] H := hP
    replace hD : va_D A [(h0, .inr (3, [.ref hrw, .int (nI ((q + 1) + 1))])), (hrw, .inl (cR, 512, .inl (g2_12)))] := hD
    replace hK : va_K (dC, dI) vwCl [(cR, .byte)] s := hK
    have hP9 := hP.sub (ws' := [(h0, .inr (3, [.ref hrw, .int (nI ((q + 1) + 1))])), (hrw, .inl (cR, 512, .inl (g2_12)))]) [0, 1] rfl
    have hD9 := hD.sub (ws' := [(h0, .inr (3, [.ref hrw, .int (nI ((q + 1) + 1))])), (hrw, .inl (cR, 512, .inl (g2_12)))]) [0, 1] (by decide) rfl
    have hK9 := hK.sub (tys' := [(cR, .byte)]) [0] rfl
    exact W.vret hx hb hr (fun t ht hW => ⟨⟨(), rfl, trivial, ((q + 1) + 1), g2_12, (x_en2 c_2 hu_13), by rw [ht]; exact hP9, va_K.moved hW.alike hK9, hD9⟩, hS.F ht⟩) hS.2.2 d_W_writeNumber_42
set_option maxHeartbeats 4000000 in
set_option maxRecDepth 100000 in
theorem lq_ins {p : Program} {l : Launch} {e : Env} {s : State} {m : MethodId} {args : Array Value} {below : List Frame} {meth : Method} {c : Code} {dC : Nat → ClassId} {dI : Nat → Nat → Nat} {A : Nat → Prop} {Q : State → Prop} (h0 : Nat) (hrw : Nat) (cR : ClassId) (q : Nat) (h1 : Nat) (hy : Nat) (cB : ClassId) (k : Nat) (f : Nat → Int32) (L : List Int32) (a : Nat) (b : Nat) (P : List Int32) (htx : tx L k f) (hk : k ≤ 256) (hb9 : b ≤ k) (hq : q + (b - a) ≤ 512)
    (hx : p.tables.exec = Jvm.exec) (hb : c.code = prog_4_method_5_code) (hml : c.maxLocals = 5) (hown : s.vm.findClass R_W = some m.cls) (hw0 : ∀ w ∈ w0, w.before args s = true) (hN : nw_ok s) (hK : va_K (dC, dI) vwCl [(cR, .byte), (cB, .byte)] s) (hA : ∀ q : Nat, s.heap.size ≤ q → A q)
    (kk : ∀ (g : Nat → Int32), (a ≤ b) → (tx (P ++ (L.drop a).take (b - a)) (q + (b - a)) g) → ∀ (H : Heap) (locs : List Loc), va_P (dC, dI) vwCl [(h0, .inr (3, [.ref hrw, .int (nI (q + (b - a)))])), (hrw, .inl (cR, 512, .inl (g))), (h1, .inr (1, [.ref hy, .int (nI k)])), (hy, .inl (cB, 256, .inl (f)))] H → va_D A [(h0, .inr (3, [.ref hrw, .int (nI (q + (b - a)))])), (hrw, .inl (cR, 512, .inl (g))), (h1, .inr (1, [.ref hy, .int (nI k)])), (hy, .inl (cB, 256, .inl (f)))] → va_S A s.heap H locs → ∀ ls : Array Slot, lv_has ls 5 [(4, .int (nI b)), (0, .ref h0), (1, .ref h1), (2, .int (nI a)), (3, .int (nI b))] → W p l e ({ frames := 2, cells := 0, slots := 0, locals := 45 } : Room) s m args below meth c H locs 0 0 Q (F0 m 40 ls [])) :
    ∀ (n j : Nat), j ≤ b → b < j + n → ∀ (g : Nat → Int32), (a ≤ j) → (tx (P ++ (L.drop a).take (j - a)) (q + (j - a)) g) → ∀ (H : Heap) (locs : List Loc), va_P (dC, dI) vwCl [(h0, .inr (3, [.ref hrw, .int (nI (q + (j - a)))])), (hrw, .inl (cR, 512, .inl (g))), (h1, .inr (1, [.ref hy, .int (nI k)])), (hy, .inl (cB, 256, .inl (f)))] H → va_D A [(h0, .inr (3, [.ref hrw, .int (nI (q + (j - a)))])), (hrw, .inl (cR, 512, .inl (g))), (h1, .inr (1, [.ref hy, .int (nI k)])), (hy, .inl (cB, 256, .inl (f)))] → va_S A s.heap H locs → ∀ ls : Array Slot, lv_has ls 5 [(4, .int (nI j)), (0, .ref h0), (1, .ref h1), (2, .int (nI a)), (3, .int (nI b))] → W p l e ({ frames := 2, cells := 0, slots := 0, locals := 45 } : Room) s m args below meth c H locs 0 0 Q (F0 m 18 ls []) := by
  intro n
  induction n with
  | zero => intro j h1 h2; exact absurd h2 (by omega)
  | succ n ih =>
    intro j hj hn g hf0 hf1 H locs hP hD hS ls hl
    refine lv_iload hx hb d_W_writeInsert_18 (lv_at hl 0 rfl) ?_
    refine lv_iload_n hx hb d_W_writeInsert_20 rfl (lv_at hl 4 rfl) ?_
    refine lv_icmp_ge (tgt := 40) hx hb d_W_writeInsert_21 (by decide) (fun c_1 => ?_) (fun c_1 => ?_)
    · obtain rfl : j = b := x_geN (by omega) hj c_1
      exact kk g hf0 hf1 _ _ hP hD hS ls (lv_sub hl [0, 1, 2, 3, 4] rfl)
    · have hlt : j < b := x_ltN (by omega) hj c_1
      refine lv_aload_n hx hb d_W_writeInsert_24 rfl (lv_at hl 1 rfl) ?_
      refine lv_aload_n hx hb d_W_writeInsert_25 rfl (lv_at hl 2 rfl) ?_
      refine lv_iload hx hb d_W_writeInsert_26 (lv_at hl 0 rfl) ?_
      have hPc := hP.sub (ws' := [(h1, .inr (1, [.ref hy, .int (nI k)])), (hy, .inl (cB, 256, .inl ((f))))]) [2, 3] rfl
      have hKc := hK.sub (tys' := [(cB, .byte)]) [1] rfl
      refine ps_i (va_runV (As := [.int (nI j)]) (rest := [.ref h0]) ⟨hx, hb, hml, hown, hw0⟩ (g_byteAt l dC dI h1 hy cB k (f) _ (nI j) (by first | assumption | decide | omega) (by first | assumption | decide | omega)) (cwV 1 hw0 (gd_Vm wm_209 wm_210 wm_211 wm_151 wm_212) rfl rfl rfl (by decide +kernel) ⟨by decide +kernel, by decide +kernel⟩) (prV_R hPc hKc hN (va_recv hKc hPc (ci := 1) (q0 := 0) rfl rfl)) rfl rfl hl.1 rfl (lv_room (Nat.le_of_ble_eq_true rfl)) d_W_writeInsert_28 ⟨by decide +kernel, by decide +kernel⟩) (fun r_2 hr_2 => ?_)
      obtain rfl : r_2 = (bAt L (nI j)) := hr_2
      have hPc := hP.sub (ws' := [(h0, .inr (3, [.ref hrw, .int (nI (q + (j - a)))])), (hrw, .inl (cR, 512, .inl ((g))))]) [0, 1] rfl
      have hKc := hK.sub (tys' := [(cR, .byte)]) [0] rfl
      have hDc := hD.sub (ws' := [(h0, .inr (3, [.ref hrw, .int (nI (q + (j - a)))])), (hrw, .inl (cR, 512, .inl ((g))))]) [0, 1] (by decide) rfl
      have hFc := va_free (wc := [(h0, .inr (3, [.ref hrw, .int (nI (q + (j - a)))])), (hrw, .inl (cR, 512, .inl ((g))))]) hD hS hA [0, 1] rfl
      refine va_callv (va_runV (As := [.int (bAt L (nI j))]) (rest := []) ⟨hx, hb, hml, hown, hw0⟩ (g_writeByte l dC dI H.size h0 hrw cR (q + (j - a)) (g) _ (bAt L (nI j)) (by first | assumption | decide | omega) (by first | assumption | decide | omega)) (cwV 1 hw0 (gd_Vm wm_205 wm_206 wm_207 wm_176 wm_208) rfl rfl rfl (by decide +kernel) ⟨by decide +kernel, by decide +kernel⟩) (prV_E hPc hKc hDc hN (va_recv hKc hPc (ci := 3) (q0 := 0) rfl rfl)) rfl rfl hl.1 rfl (lv_room (Nat.le_of_ble_eq_true rfl)) d_W_writeInsert_31 ⟨by decide +kernel, by decide +kernel⟩) hS (fun q _ h => hFc q h) hFc (fun u t H1 locs ht hvm hw hB hz1 hk1 hS => ?_)
      obtain ⟨g2_3, hu_4, hP1, hK1, hD1⟩ := hB
      rw [ht] at hP1
      have hK1 := va_K.moved hvm.symm hK1
      try dsimp only at hw
      obtain ⟨hP, hD⟩ := va_join (wr := [(h1, .inr (1, [.ref hy, .int (nI k)])), (hy, .inl (cB, 256, .inl (f)))]) (w1 := [(h0, .inr (3, [.ref hrw, .int (nI ((q + (j - a)) + 1))])), (hrw, .inl (cR, 512, .inl (g2_3)))]) hP hD [0, 1] [2, 3] rfl rfl (by decide) (by decide) hk1 hFc hP1 hD1
      generalize H1 = H at hP hS ⊢
      replace hP : va_P (dC, dI) vwCl [(h1, .inr (1, [.ref hy, .int (nI k)])), (hy, .inl (cB, 256, .inl (f))), (h0, .inr (3, [.ref hrw, .int (nI ((q + (j - a)) + 1))])), (hrw, .inl (cR, 512, .inl (g2_3)))] H := hP
      replace hD : va_D A [(h1, .inr (1, [.ref hy, .int (nI k)])), (hy, .inl (cB, 256, .inl (f))), (h0, .inr (3, [.ref hrw, .int (nI ((q + (j - a)) + 1))])), (hrw, .inl (cR, 512, .inl (g2_3)))] := hD
      replace hK : va_K (dC, dI) vwCl [(cR, .byte), (cB, .byte)] s := hK
      refine lv_iinc (v := nI (j + 1)) (lv' := [(4, .int (nI (j + 1))), (0, .ref h0), (1, .ref h1), (2, .int (nI a)), (3, .int (nI b))]) hx hb d_W_writeInsert_34 hl (k := 0) rfl (nI_1 j) (by decide) rfl (fun ls hl => ?_)
      refine lv_goto (tgt := 18) hx hb d_W_writeInsert_37 (by decide) ?_
      have eq9 : q + (j - a) + 1 = q + (j + 1 - a) := by omega
      rw [eq9] at hP hD hu_4
      exact ih (j + 1) hlt (by omega) g2_3 (by omega) (x_ins htx (by omega) hf0 (by omega) hu_4) _ _ (hP.sub (ws' := [(h0, .inr (3, [.ref hrw, .int (nI (q + ((j + 1) - a)))])), (hrw, .inl (cR, 512, .inl (g2_3))), (h1, .inr (1, [.ref hy, .int (nI k)])), (hy, .inl (cB, 256, .inl (f)))]) [2, 3, 0, 1] rfl) (hD.sub (ws' := [(h0, .inr (3, [.ref hrw, .int (nI (q + ((j + 1) - a)))])), (hrw, .inl (cR, 512, .inl (g2_3))), (h1, .inr (1, [.ref hy, .int (nI k)])), (hy, .inl (cB, 256, .inl (f)))]) [2, 3, 0, 1] (by decide) rfl) hS ls (lv_sub hl [0, 1, 2, 3, 4] rfl)
set_option maxHeartbeats 4000000 in
set_option maxRecDepth 100000 in
theorem g_writeInsert (l : Launch) (dC : Nat → ClassId) (dI : Nat → Nat → Nat) (sz : Nat) (h0 : Nat) (hrw : Nat) (cR : ClassId) (q : Nat) (g : Nat → Int32) (P : List Int32) (h1 : Nat) (hy : Nat) (cB : ClassId) (k : Nat) (f : Nat → Int32) (L : List Int32) (a : Nat) (b : Nat) (hp : tx P q g) (htx : tx L k f) (hk : k ≤ 256) (ha9 : a ≤ k) (hb9 : b ≤ k) (hq : a < b → q + dgt (2 * (b - a)) + (b - a) ≤ 512) : Met l y_W_writeInsert k_W_writeInsert ({ frames := 2, cells := 0, slots := 0, locals := 45 } : Room) (va_Pc [.ref h0, .ref h1, .int (nI a), .int (nI b)] (pc_E (dC, dI) [(h0, .inr (3, [.ref hrw, .int (nI q)])), (hrw, .inl (cR, 512, .inl (g))), (h1, .inr (1, [.ref hy, .int (nI k)])), (hy, .inl (cB, 256, .inl (f)))] [(cR, .byte), (cB, .byte)] sz)) (va_Qv (fun (_ : Unit) => True) (fun (_ : Unit) t => ∃ (q2 : Nat) (g2 : Nat → Int32), (q2 = q + (insE L a b).length ∧ tx (P ++ insE L a b) q2 g2) ∧ at_E (dC, dI) (va_A [(h0, .inr (3, [.ref hrw, .int (nI q)])), (hrw, .inl (cR, 512, .inl (g))), (h1, .inr (1, [.ref hy, .int (nI k)])), (hy, .inl (cB, 256, .inl (f)))] sz) [(h0, .inr (3, [.ref hrw, .int (nI q2)])), (hrw, .inl (cR, 512, .inl (g2))), (h1, .inr (1, [.ref hy, .int (nI k)])), (hy, .inl (cB, 256, .inl (f)))] [(cR, .byte), (cB, .byte)] t) (va_A [(h0, .inr (3, [.ref hrw, .int (nI q)])), (hrw, .inl (cR, 512, .inl (g))), (h1, .inr (1, [.ref hy, .int (nI k)])), (hy, .inl (cB, 256, .inl (f)))] sz)) 0 0 (va_A [(h0, .inr (3, [.ref hrw, .int (nI q)])), (hrw, .inl (cR, 512, .inl (g))), (h1, .inr (1, [.ref hy, .int (nI k)])), (hy, .inl (cB, 256, .inl (f)))] sz) := by
  refine Met.ofW (cc := prog_4_method_5_code) (maxL := 5) (ret := none) (by decide) rfl ?_
  intro p e s m args below meth c s₁ B hml hv
  obtain ⟨rfl, hsz, hP, hK, hD0, hN⟩ := hv
  have hx := B.exec
  have hb := B.bytes
  have hr := B.returns
  have hts := atoms_spec (ws := k_W_writeInsert) B.pre
  have hw0 : ∀ w ∈ w0, w.before _ s = true := fun w h => hts w (List.mem_cons_of_mem _ h)
  have hown : s.vm.findClass R_W = some m.cls := findClass_of_methodNamed B.named
  have hlocks := B.notSynchronized
  subst hsz
  have hD := hD0.self (sz := s.heap.size)
  generalize hAe : va_A [(h0, .inr (3, [.ref hrw, .int (nI q)])), (hrw, .inl (cR, 512, .inl (g))), (h1, .inr (1, [.ref hy, .int (nI k)])), (hy, .inl (cB, 256, .inl (f)))] s.heap.size = A at hD ⊢
  have hA : ∀ q : Nat, s.heap.size ≤ q → A q := fun q h => by rw [← hAe]; exact Or.inr h
  have hS : va_S A s.heap s.heap [] := va_S.rf
  have hP : va_P (dC, dI) vwCl [(h0, .inr (3, [.ref hrw, .int (nI q)])), (hrw, .inl (cR, 512, .inl (g))), (h1, .inr (1, [.ref hy, .int (nI k)])), (hy, .inl (cB, 256, .inl (f)))] s.heap := hP
  have hl := lv_entry ([.ref h0, .ref h1, .int (nI a), .int (nI b)]) (n := 5) (Nat.le_of_ble_eq_true rfl)
  rw [lg_entry_eq]
  generalize (lg_sl ([.ref h0, .ref h1, .int (nI a), .int (nI b)]) ++ List.replicate (5 - (lg_sl ([.ref h0, .ref h1, .int (nI a), .int (nI b)])).length) Slot.unset).toArray = ls at hl ⊢
  have hl : lv_has ls 5 [(0, .ref h0), (1, .ref h1), (2, .int (nI a)), (3, .int (nI b))] := hl
  refine lv_iload_n hx hb d_W_writeInsert_0 rfl (lv_at hl 2 rfl) ?_
  refine lv_iload_n hx hb d_W_writeInsert_1 rfl (lv_at hl 3 rfl) ?_
  refine lv_icmp_lt (tgt := 6) hx hb d_W_writeInsert_2 (by decide) (fun c_1 => ?_) (fun c_1 => ?_)
  · have hab : a < b := (nI_ltI (by omega) (by omega)).mp c_1; have hq8 := hq hab
    refine lv_aload_n hx hb d_W_writeInsert_6 rfl (lv_at hl 0 rfl) ?_
    refine lv_iconst (v := 2) hx hb d_W_writeInsert_7 (by decide) ?_
    refine lv_iload_n hx hb d_W_writeInsert_8 rfl (lv_at hl 3 rfl) ?_
    refine lv_iload_n hx hb d_W_writeInsert_9 rfl (lv_at hl 2 rfl) ?_
    refine lv_isub hx hb d_W_writeInsert_10 ?_
    refine lv_topi (fun x_2 ex_2 => ?_)
    obtain rfl : x_2 = (nI (b - a)) := by rw [ex_2]; exact pk_sub (by omega)
    clear ex_2
    refine lv_imul hx hb d_W_writeInsert_11 ?_
    refine lv_topi (fun x_3 ex_3 => ?_)
    obtain rfl : x_3 = (nI (2 * (b - a))) := by rw [ex_3]; exact (show nI 2 * nI (b - a) = nI (2 * (b - a)) from pk_mul 2 (b - a))
    clear ex_3
    have hPc := hP.sub (ws' := [(h0, .inr (3, [.ref hrw, .int (nI q)])), (hrw, .inl (cR, 512, .inl ((g))))]) [0, 1] rfl
    have hKc := hK.sub (tys' := [(cR, .byte)]) [0] rfl
    have hDc := hD.sub (ws' := [(h0, .inr (3, [.ref hrw, .int (nI q)])), (hrw, .inl (cR, 512, .inl ((g))))]) [0, 1] (by decide) rfl
    have hFc := va_free (wc := [(h0, .inr (3, [.ref hrw, .int (nI q)])), (hrw, .inl (cR, 512, .inl ((g))))]) hD hS hA [0, 1] rfl
    refine va_callv (va_runV (As := [.int (nI (2 * (b - a)))]) (rest := []) ⟨hx, hb, hml, hown, hw0⟩ (g_writeNumber l dC dI s.heap.size h0 hrw cR q (g) _ (2 * (b - a)) (by first | assumption | decide | omega) (by first | assumption | decide | omega) (by first | assumption | decide | omega)) (cwV 1 hw0 (gd_Vm wm_213 wm_214 wm_215 wm_176 wm_216) rfl rfl rfl (by decide +kernel) ⟨by decide +kernel, by decide +kernel⟩) (prV_E hPc hKc hDc hN (va_recv hKc hPc (ci := 3) (q0 := 0) rfl rfl)) rfl rfl hl.1 rfl (lv_room (Nat.le_of_ble_eq_true rfl)) d_W_writeInsert_12 ⟨by decide +kernel, by decide +kernel⟩) hS (fun q _ h => hFc q h) hFc (fun u t H1 locs ht hvm hw hB hz1 hk1 hS => ?_)
    obtain ⟨q2_4, g2_5, ⟨hu_6_0, hu_6_1⟩, hP1, hK1, hD1⟩ := hB
    rw [ht] at hP1
    have hK1 := va_K.moved hvm.symm hK1
    try dsimp only at hw
    obtain ⟨hP, hD⟩ := va_join (wr := [(h1, .inr (1, [.ref hy, .int (nI k)])), (hy, .inl (cB, 256, .inl (f)))]) (w1 := [(h0, .inr (3, [.ref hrw, .int (nI q2_4)])), (hrw, .inl (cR, 512, .inl (g2_5)))]) hP hD [0, 1] [2, 3] rfl rfl (by decide) (by decide) hk1 hFc hP1 hD1
    generalize H1 = H at hP hS ⊢
    replace hP : va_P (dC, dI) vwCl [(h1, .inr (1, [.ref hy, .int (nI k)])), (hy, .inl (cB, 256, .inl (f))), (h0, .inr (3, [.ref hrw, .int (nI q2_4)])), (hrw, .inl (cR, 512, .inl (g2_5)))] H := hP
    replace hD : va_D A [(h1, .inr (1, [.ref hy, .int (nI k)])), (hy, .inl (cB, 256, .inl (f))), (h0, .inr (3, [.ref hrw, .int (nI q2_4)])), (hrw, .inl (cR, 512, .inl (g2_5)))] := hD
    replace hK : va_K (dC, dI) vwCl [(cR, .byte), (cB, .byte)] s := hK
    refine lv_iload_n hx hb d_W_writeInsert_15 rfl (lv_at hl 2 rfl) ?_
    refine lv_istore (lv' := [(4, .int (nI a)), (0, .ref h0), (1, .ref h1), (2, .int (nI a)), (3, .int (nI b))]) hx hb d_W_writeInsert_16 hl (by decide) rfl (fun ls hl => ?_)
    have e0 : q2_4 + (a - a) = q2_4 := by omega
    have hu9 : tx ((P ++ encN (2 * (b - a))) ++ (L.drop a).take (a - a)) (q2_4 + (a - a)) g2_5 := by rw [e0, Nat.sub_self, List.take_zero, List.append_nil]; exact hu_6_1
    rw [← e0] at hP hD
    refine lq_ins h0 hrw cR q2_4 h1 hy cB k f L a b (P ++ encN (2 * (b - a))) htx hk hb9 (by have h8 := dgt_le (2 * (b - a)); omega) hx hb hml hown hw0 hN (hK.sub (tys' := [(cR, .byte), (cB, .byte)]) [0, 1] rfl) hA (fun g9 hg8 hg9 H locs hP hD hS ls hl => ?_) (b + 1) a (by omega) (by omega) g2_5 (Nat.le_refl a) hu9 _ _ (hP.sub (ws' := [(h0, .inr (3, [.ref hrw, .int (nI (q2_4 + (a - a)))])), (hrw, .inl (cR, 512, .inl (g2_5))), (h1, .inr (1, [.ref hy, .int (nI k)])), (hy, .inl (cB, 256, .inl (f)))]) [2, 3, 0, 1] rfl) (hD.sub (ws' := [(h0, .inr (3, [.ref hrw, .int (nI (q2_4 + (a - a)))])), (hrw, .inl (cR, 512, .inl (g2_5))), (h1, .inr (1, [.ref hy, .int (nI k)])), (hy, .inl (cB, 256, .inl (f)))]) [2, 3, 0, 1] (by decide) rfl) hS ls (lv_sub hl [0, 1, 2, 3, 4] rfl)
    replace hK := hK.sub (tys' := [(cR, .byte), (cB, .byte)]) [0, 1] rfl
    have hP9 := hP.sub (ws' := [(h0, .inr (3, [.ref hrw, .int (nI (q2_4 + (b - a)))])), (hrw, .inl (cR, 512, .inl (g9))), (h1, .inr (1, [.ref hy, .int (nI k)])), (hy, .inl (cB, 256, .inl (f)))]) [0, 1, 2, 3] rfl
    have hD9 := hD.sub (ws' := [(h0, .inr (3, [.ref hrw, .int (nI (q2_4 + (b - a)))])), (hrw, .inl (cR, 512, .inl (g9))), (h1, .inr (1, [.ref hy, .int (nI k)])), (hy, .inl (cB, 256, .inl (f)))]) [0, 1, 2, 3] (by decide) rfl
    have hK9 := hK.sub (tys' := [(cR, .byte), (cB, .byte)]) [0, 1] rfl
    exact W.vret hx hb hr (fun t ht hW => ⟨⟨(), rfl, trivial, (q2_4 + (b - a)), g9, (x_insT hab (by rw [htx.1]; exact hb9) hu_6_0 hg9), by rw [ht]; exact hP9, va_K.moved hW.alike hK9, hD9⟩, hS.F ht⟩) hS.2.2 d_W_writeInsert_40
  · have hP9 := hP.sub (ws' := [(h0, .inr (3, [.ref hrw, .int (nI q)])), (hrw, .inl (cR, 512, .inl (g))), (h1, .inr (1, [.ref hy, .int (nI k)])), (hy, .inl (cB, 256, .inl (f)))]) [0, 1, 2, 3] rfl
    have hD9 := hD.sub (ws' := [(h0, .inr (3, [.ref hrw, .int (nI q)])), (hrw, .inl (cR, 512, .inl (g))), (h1, .inr (1, [.ref hy, .int (nI k)])), (hy, .inl (cB, 256, .inl (f)))]) [0, 1, 2, 3] (by decide) rfl
    have hK9 := hK.sub (tys' := [(cR, .byte), (cB, .byte)]) [0, 1] rfl
    exact W.vret hx hb hr (fun t ht hW => ⟨⟨(), rfl, trivial, q, g, (x_insF c_1 (by omega) (by omega) hp), by rw [ht]; exact hP9, va_K.moved hW.alike hK9, hD9⟩, hS.F ht⟩) hS.2.2 d_W_writeInsert_5
set_option maxHeartbeats 4000000 in
set_option maxRecDepth 100000 in
theorem lq_best {p : Program} {l : Launch} {e : Env} {s : State} {m : MethodId} {args : Array Value} {below : List Frame} {meth : Method} {c : Code} {dC : Nat → ClassId} {dI : Nat → Nat → Nat} {Q : State → Prop} {H : Heap} {locs : List Loc} (h0 : Nat) (hy : Nat) (cB : ClassId) (k : Nat) (f : Nat → Int32) (L : List Int32) (h2 : Nat) (hy2 : Nat) (cB2 : ClassId) (k2 : Nat) (fo : Nat → Int32) (L2 : List Int32) (i : Nat) (htx : tx L k f) (htx2 : tx L2 k2 fo) (hk : k ≤ 256) (hk2 : k2 ≤ 256) (hi : i ≤ k)
    (hx : p.tables.exec = Jvm.exec) (hb : c.code = prog_4_method_4_code) (hml : c.maxLocals = 7) (hown : s.vm.findClass R_W = some m.cls) (hw0 : ∀ w ∈ w0, w.before args s = true) (hN : nw_ok s) (hK : va_K (dC, dI) vwCl [(cB, .byte), (cB2, .byte)] s) (hP : va_P (dC, dI) vwCl [(h0, .inr (1, [.ref hy, .int (nI k)])), (hy, .inl (cB, 256, .inl (f))), (h2, .inr (1, [.ref hy2, .int (nI k2)])), (hy2, .inl (cB2, 256, .inl (fo)))] H)
    (kk : ∀ ls : Array Slot, lv_has ls 7 [(5, .int (nI k2)), (3, .int (nI (bst L i L2 k2).1)), (4, .int (nI (bst L i L2 k2).2)), (0, .ref h0), (1, .int (nI i)), (2, .ref h2)] → W p l e ({ frames := 2, cells := 0, slots := 0, locals := 49 } : Room) s m args below meth c H locs 0 0 Q (F0 m 46 ls [])) :
    ∀ (n j : Nat), j ≤ k2 → k2 < j + n → ∀ ls : Array Slot, lv_has ls 7 [(5, .int (nI j)), (3, .int (nI (bst L i L2 j).1)), (4, .int (nI (bst L i L2 j).2)), (0, .ref h0), (1, .int (nI i)), (2, .ref h2)] → W p l e ({ frames := 2, cells := 0, slots := 0, locals := 49 } : Room) s m args below meth c H locs 0 0 Q (F0 m 8 ls []) := by
  intro n
  induction n with
  | zero => intro j  h1 h2; exact absurd h2 (by omega)
  | succ n ih =>
    intro j  hj hn  ls hl
    refine lv_iload hx hb d_W_placeOfLongest_8 (lv_at hl 0 rfl) ?_
    refine lv_aload_n hx hb d_W_placeOfLongest_10 rfl (lv_at hl 5 rfl) ?_
    refine va_getN (D := (dC, dI)) (ci := 1) (v := .int (nI k2)) (C := R_T) (T := F_T) (N := 2) hx hb hw0 in_T hown hK hP 2 rfl rfl 1 (by decide) (va_Nw.use rfl (hN.1 (.fieldLinkNest R_W 23 "TextKeeper$Text" "length" "I" "TextKeeper") (List.mem_of_getElem? (i := 6) rfl))) (fun _ h9 => h9) rfl d_W_placeOfLongest_11 ?_
    refine lv_icmp_ge (tgt := 46) hx hb d_W_placeOfLongest_14 (by decide) (fun c_1 => ?_) (fun c_1 => ?_)
    · obtain rfl : j = k2 := x_geN (by omega) hj c_1
      exact kk ls (lv_sub hl [0, 1, 2, 3, 4, 5] rfl)
    · have hlt : j < k2 := x_ltN (by omega) hj c_1
      refine lv_aload_n hx hb d_W_placeOfLongest_17 rfl (lv_at hl 3 rfl) ?_
      refine lv_iload_n hx hb d_W_placeOfLongest_18 rfl (lv_at hl 4 rfl) ?_
      refine lv_aload_n hx hb d_W_placeOfLongest_19 rfl (lv_at hl 5 rfl) ?_
      refine lv_iload hx hb d_W_placeOfLongest_20 (lv_at hl 0 rfl) ?_
      have hPc := hP.sub (ws' := [(h0, .inr (1, [.ref hy, .int (nI k)])), (hy, .inl (cB, 256, .inl ((f)))), (h2, .inr (1, [.ref hy2, .int (nI k2)])), (hy2, .inl (cB2, 256, .inl ((fo))))]) [0, 1, 2, 3] rfl
      have hKc := hK.sub (tys' := [(cB, .byte), (cB2, .byte)]) [0, 1] rfl
      refine ps_i (va_runV (As := [.int (nI i), .ref h2, .int (nI j)]) (rest := []) ⟨hx, hb, hml, hown, hw0⟩ (g_runWith l dC dI h0 hy cB k (f) _ h2 hy2 cB2 k2 (fo) _ i j (by first | assumption | decide | omega) (by first | assumption | decide | omega) (by first | assumption | decide | omega) (by first | assumption | decide | omega) (by first | assumption | decide | omega) (by first | assumption | decide | omega)) (cwV 3 hw0 (gd_Vm wm_217 wm_218 wm_219 wm_151 wm_220) rfl rfl rfl (by decide +kernel) ⟨by decide +kernel, by decide +kernel⟩) (prV_R hPc hKc hN (va_recv hKc hPc (ci := 1) (q0 := 0) rfl rfl)) rfl rfl hl.1 rfl (lv_room (Nat.le_of_ble_eq_true rfl)) d_W_placeOfLongest_22 ⟨by decide +kernel, by decide +kernel⟩) (fun r_2 hr_2 => ?_)
      obtain rfl : r_2 = (nI (cpl (L.drop i) (L2.drop j))) := hr_2
      refine lv_istore (lv' := [(6, .int (nI (cpl (L.drop i) (L2.drop j)))), (5, .int (nI j)), (3, .int (nI (bst L i L2 j).1)), (4, .int (nI (bst L i L2 j).2)), (0, .ref h0), (1, .int (nI i)), (2, .ref h2)]) hx hb d_W_placeOfLongest_25 hl (by decide) rfl (fun ls hl => ?_)
      refine lv_iload hx hb d_W_placeOfLongest_27 (lv_at hl 0 rfl) ?_
      refine lv_iload_n hx hb d_W_placeOfLongest_29 rfl (lv_at hl 2 rfl) ?_
      refine lv_icmp_le (tgt := 40) hx hb d_W_placeOfLongest_30 (by decide) (fun c_3 => ?_) (fun c_3 => ?_)
      · refine lv_iinc (v := nI (j + 1)) (lv' := [(5, .int (nI (j + 1))), (6, .int (nI (cpl (L.drop i) (L2.drop j)))), (3, .int (nI (bst L i L2 j).1)), (4, .int (nI (bst L i L2 j).2)), (0, .ref h0), (1, .int (nI i)), (2, .ref h2)]) hx hb d_W_placeOfLongest_40 hl (k := 1) rfl (nI_1 j) (by decide) rfl (fun ls hl => ?_)
        refine lv_goto (tgt := 8) hx hb d_W_placeOfLongest_43 (by decide) ?_
        exact ih (j + 1) hlt (by omega) ls (by rw [bst_le ((nI_leI (by have := cpl_le1 (L.drop i) (L2.drop j); rw [List.length_drop, htx.1] at this; omega) (by have := bst_le1 L i L2 j; rw [htx.1] at this; omega)).mp c_3)]; exact (lv_sub hl [0, 2, 3, 4, 5, 6] rfl))
      · refine lv_iload hx hb d_W_placeOfLongest_33 (lv_at hl 0 rfl) ?_
        refine lv_istore_n (lv' := [(3, .int (nI (cpl (L.drop i) (L2.drop j)))), (6, .int (nI (cpl (L.drop i) (L2.drop j)))), (5, .int (nI j)), (4, .int (nI (bst L i L2 j).2)), (0, .ref h0), (1, .int (nI i)), (2, .ref h2)]) hx hb d_W_placeOfLongest_35 rfl hl (by decide) rfl (fun ls hl => ?_)
        refine lv_iload hx hb d_W_placeOfLongest_36 (lv_at hl 2 rfl) ?_
        refine lv_istore (lv' := [(4, .int (nI j)), (3, .int (nI (cpl (L.drop i) (L2.drop j)))), (6, .int (nI (cpl (L.drop i) (L2.drop j)))), (5, .int (nI j)), (0, .ref h0), (1, .int (nI i)), (2, .ref h2)]) hx hb d_W_placeOfLongest_38 hl (by decide) rfl (fun ls hl => ?_)
        refine lv_iinc (v := nI (j + 1)) (lv' := [(5, .int (nI (j + 1))), (4, .int (nI j)), (3, .int (nI (cpl (L.drop i) (L2.drop j)))), (6, .int (nI (cpl (L.drop i) (L2.drop j)))), (0, .ref h0), (1, .int (nI i)), (2, .ref h2)]) hx hb d_W_placeOfLongest_40 hl (k := 3) rfl (nI_1 j) (by decide) rfl (fun ls hl => ?_)
        refine lv_goto (tgt := 8) hx hb d_W_placeOfLongest_43 (by decide) ?_
        exact ih (j + 1) hlt (by omega) ls (by rw [bst_gt (mt (nI_leI (by have := cpl_le1 (L.drop i) (L2.drop j); rw [List.length_drop, htx.1] at this; omega) (by have := bst_le1 L i L2 j; rw [htx.1] at this; omega)).mpr c_3)]; exact (lv_sub hl [0, 2, 1, 4, 5, 6] rfl))
set_option maxHeartbeats 4000000 in
set_option maxRecDepth 100000 in
theorem g_placeOfLongest (l : Launch) (dC : Nat → ClassId) (dI : Nat → Nat → Nat) (h0 : Nat) (hy : Nat) (cB : ClassId) (k : Nat) (f : Nat → Int32) (L : List Int32) (h2 : Nat) (hy2 : Nat) (cB2 : ClassId) (k2 : Nat) (fo : Nat → Int32) (L2 : List Int32) (i : Nat) (htx : tx L k f) (htx2 : tx L2 k2 fo) (hk : k ≤ 256) (hk2 : k2 ≤ 256) (hi : i ≤ k) : Met l y_W_placeOfLongest k_W_placeOfLongest ({ frames := 2, cells := 0, slots := 0, locals := 49 } : Room) (va_Pc [.ref h0, .int (nI i), .ref h2] (pc_R (dC, dI) [(h0, .inr (1, [.ref hy, .int (nI k)])), (hy, .inl (cB, 256, .inl (f))), (h2, .inr (1, [.ref hy2, .int (nI k2)])), (hy2, .inl (cB2, 256, .inl (fo)))] [(cB, .byte), (cB2, .byte)])) (vp_Si (fun r => r = nI (bst L i L2 k2).2)) 0 0 (fun _ => False) := by
  refine Met.ofW (cc := prog_4_method_4_code) (maxL := 7) (ret := (some .int)) (by decide) rfl ?_
  intro p e s m args below meth c s₁ B hml hv
  obtain ⟨rfl, hP, hK, hN⟩ := hv
  have hx := B.exec
  have hb := B.bytes
  have hr := B.returns
  have hts := atoms_spec (ws := k_W_placeOfLongest) B.pre
  have hw0 : ∀ w ∈ w0, w.before _ s = true := fun w h => hts w (List.mem_cons_of_mem _ h)
  have hown : s.vm.findClass R_W = some m.cls := findClass_of_methodNamed B.named
  have hlocks := B.notSynchronized
  have hP : va_P (dC, dI) vwCl [(h0, .inr (1, [.ref hy, .int (nI k)])), (hy, .inl (cB, 256, .inl (f))), (h2, .inr (1, [.ref hy2, .int (nI k2)])), (hy2, .inl (cB2, 256, .inl (fo)))] s.heap := hP
  have hl := lv_entry ([.ref h0, .int (nI i), .ref h2]) (n := 7) (Nat.le_of_ble_eq_true rfl)
  rw [lg_entry_eq]
  generalize (lg_sl ([.ref h0, .int (nI i), .ref h2]) ++ List.replicate (7 - (lg_sl ([.ref h0, .int (nI i), .ref h2])).length) Slot.unset).toArray = ls at hl ⊢
  have hl : lv_has ls 7 [(0, .ref h0), (1, .int (nI i)), (2, .ref h2)] := hl
  refine lv_iconst (v := 0) hx hb d_W_placeOfLongest_0 (by decide) ?_
  refine lv_istore_n (lv' := [(3, .int 0), (0, .ref h0), (1, .int (nI i)), (2, .ref h2)]) hx hb d_W_placeOfLongest_1 rfl hl (by decide) rfl (fun ls hl => ?_)
  refine lv_iconst (v := 0) hx hb d_W_placeOfLongest_2 (by decide) ?_
  refine lv_istore (lv' := [(4, .int 0), (3, .int 0), (0, .ref h0), (1, .int (nI i)), (2, .ref h2)]) hx hb d_W_placeOfLongest_3 hl (by decide) rfl (fun ls hl => ?_)
  refine lv_iconst (v := 0) hx hb d_W_placeOfLongest_5 (by decide) ?_
  refine lv_istore (lv' := [(5, .int 0), (4, .int 0), (3, .int 0), (0, .ref h0), (1, .int (nI i)), (2, .ref h2)]) hx hb d_W_placeOfLongest_6 hl (by decide) rfl (fun ls hl => ?_)
  refine lq_best h0 hy cB k f L h2 hy2 cB2 k2 fo L2 i htx htx2 hk hk2 hi hx hb hml hown hw0 hN hK hP (fun ls hl => ?_) (k2 + 1) 0 (by omega) (by omega) ls (lv_sub hl [0, 2, 1, 3, 4, 5] rfl)
  refine lv_iload hx hb d_W_placeOfLongest_46 (lv_at hl 2 rfl) ?_
  exact W.iret (v := (nI (bst L i L2 k2).2)) hx hb hr (fun t ht hW => ⟨(nI (bst L i L2 k2).2), rfl, rfl, ht⟩) (fun q h => by cases h) d_W_placeOfLongest_48
set_option maxHeartbeats 4000000 in
set_option maxRecDepth 100000 in
theorem lq_dif {p : Program} {l : Launch} {e : Env} {s : State} {m : MethodId} {args : Array Value} {below : List Frame} {meth : Method} {c : Code} {dC : Nat → ClassId} {dI : Nat → Nat → Nat} {A : Nat → Prop} {Q : State → Prop} (h0 : Nat) (hrw : Nat) (cR : ClassId) (h1 : Nat) (hy : Nat) (cB : ClassId) (k : Nat) (f : Nat → Int32) (L : List Int32) (h2 : Nat) (hy2 : Nat) (cB2 : ClassId) (k2 : Nat) (fo : Nat → Int32) (L2 : List Int32) (D : List Int32) (htx : tx L k f) (htx2 : tx L2 k2 fo) (hk : k ≤ 256) (hk2 : k2 ≤ 256)
    (hx : p.tables.exec = Jvm.exec) (hb : c.code = prog_4_method_3_code) (hml : c.maxLocals = 7) (hown : s.vm.findClass R_W = some m.cls) (hw0 : ∀ w ∈ w0, w.before args s = true) (hN : nw_ok s) (hK : va_K (dC, dI) vwCl [(cR, .byte), (cB, .byte), (cB2, .byte)] s) (hA : ∀ q : Nat, s.heap.size ≤ q → A q)
    (kk : ∀ (nw : Nat) (q : Nat) (g : Nat → Int32) (P : List Int32) (F : Nat), (nw ≤ k) → (tx P q g) → (q ≤ 2 * nw) → (k ≤ k + F) → (P ++ dif L L2 F k nw = D) → ∀ (H : Heap) (locs : List Loc), va_P (dC, dI) vwCl [(h0, .inr (3, [.ref hrw, .int (nI q)])), (hrw, .inl (cR, 512, .inl (g))), (h1, .inr (1, [.ref hy, .int (nI k)])), (hy, .inl (cB, 256, .inl (f))), (h2, .inr (1, [.ref hy2, .int (nI k2)])), (hy2, .inl (cB2, 256, .inl (fo)))] H → va_D A [(h0, .inr (3, [.ref hrw, .int (nI q)])), (hrw, .inl (cR, 512, .inl (g))), (h1, .inr (1, [.ref hy, .int (nI k)])), (hy, .inl (cB, 256, .inl (f))), (h2, .inr (1, [.ref hy2, .int (nI k2)])), (hy2, .inl (cB2, 256, .inl (fo)))] → va_S A s.heap H locs → ∀ ls : Array Slot, lv_has ls 7 [(4, .int (nI k)), (3, .int (nI nw)), (0, .ref h0), (1, .ref h1), (2, .ref h2)] → W p l e ({ frames := 3, cells := 0, slots := 0, locals := 75 } : Room) s m args below meth c H locs 0 0 Q (F0 m 88 ls [])) :
    ∀ (n j : Nat), j ≤ k → k < j + n → ∀ (nw : Nat) (q : Nat) (g : Nat → Int32) (P : List Int32) (F : Nat), (nw ≤ j) → (tx P q g) → (q ≤ 2 * nw) → (k ≤ j + F) → (P ++ dif L L2 F j nw = D) → ∀ (H : Heap) (locs : List Loc), va_P (dC, dI) vwCl [(h0, .inr (3, [.ref hrw, .int (nI q)])), (hrw, .inl (cR, 512, .inl (g))), (h1, .inr (1, [.ref hy, .int (nI k)])), (hy, .inl (cB, 256, .inl (f))), (h2, .inr (1, [.ref hy2, .int (nI k2)])), (hy2, .inl (cB2, 256, .inl (fo)))] H → va_D A [(h0, .inr (3, [.ref hrw, .int (nI q)])), (hrw, .inl (cR, 512, .inl (g))), (h1, .inr (1, [.ref hy, .int (nI k)])), (hy, .inl (cB, 256, .inl (f))), (h2, .inr (1, [.ref hy2, .int (nI k2)])), (hy2, .inl (cB2, 256, .inl (fo)))] → va_S A s.heap H locs → ∀ ls : Array Slot, lv_has ls 7 [(4, .int (nI j)), (3, .int (nI nw)), (0, .ref h0), (1, .ref h1), (2, .ref h2)] → W p l e ({ frames := 3, cells := 0, slots := 0, locals := 75 } : Room) s m args below meth c H locs 0 0 Q (F0 m 10 ls []) := by
  intro n
  induction n with
  | zero => intro j h1 h2; exact absurd h2 (by omega)
  | succ n ih =>
    intro j hj hn nw q g P F hf0 hf1 hf2 hf3 hf4 H locs hP hD hS ls hl
    refine lv_iload hx hb d_W_writeDifferences_10 (lv_at hl 0 rfl) ?_
    refine lv_aload_n hx hb d_W_writeDifferences_12 rfl (lv_at hl 3 rfl) ?_
    refine va_getN (D := (dC, dI)) (ci := 1) (v := .int (nI k)) (C := R_T) (T := F_T) (N := 2) hx hb hw0 in_T hown hK hP 2 rfl rfl 1 (by decide) (va_Nw.use rfl (hN.1 (.fieldLinkNest R_W 23 "TextKeeper$Text" "length" "I" "TextKeeper") (List.mem_of_getElem? (i := 6) rfl))) (fun _ h9 => h9) rfl d_W_writeDifferences_13 ?_
    refine lv_icmp_ge (tgt := 88) hx hb d_W_writeDifferences_16 (by decide) (fun c_1 => ?_) (fun c_1 => ?_)
    · obtain rfl : j = k := x_geN (by omega) hj c_1
      exact kk nw q g P F hf0 hf1 hf2 hf3 hf4 _ _ hP hD hS ls (lv_sub hl [0, 1, 2, 3, 4] rfl)
    · have hlt : j < k := x_ltN (by omega) hj c_1; obtain ⟨F1, rfl⟩ : ∃ z, F = z + 1 := ⟨F - 1, by omega⟩; have hbl := (bst_lt L j L2 k2).1; have hcl : (cpl (L.drop j) (L2.drop (bst L j L2 k2).2)) ≤ k - j := (by have h8 := cpl_le1 (L.drop j) (L2.drop (bst L j L2 k2).2); rw [List.length_drop, htx.1] at h8; exact h8)
      refine lv_aload_n hx hb d_W_writeDifferences_19 rfl (lv_at hl 3 rfl) ?_
      refine lv_iload hx hb d_W_writeDifferences_20 (lv_at hl 0 rfl) ?_
      refine lv_aload_n hx hb d_W_writeDifferences_22 rfl (lv_at hl 4 rfl) ?_
      have hPc := hP.sub (ws' := [(h1, .inr (1, [.ref hy, .int (nI k)])), (hy, .inl (cB, 256, .inl ((f)))), (h2, .inr (1, [.ref hy2, .int (nI k2)])), (hy2, .inl (cB2, 256, .inl ((fo))))]) [2, 3, 4, 5] rfl
      have hKc := hK.sub (tys' := [(cB, .byte), (cB2, .byte)]) [1, 2] rfl
      refine ps_i (va_runS (As := [.ref h1, .int (nI j), .ref h2]) (rest := []) ⟨hx, hb, hml, hown, hw0⟩ (g_placeOfLongest l dC dI h1 hy cB k (f) _ h2 hy2 cB2 k2 (fo) _ j (by first | assumption | decide | omega) (by first | assumption | decide | omega) (by first | assumption | decide | omega) (by first | assumption | decide | omega) (by first | assumption | decide | omega)) (va_cwS 3 hw0 (gd_S 221 222 176 223 rfl rfl rfl rfl) rfl rfl rfl (by decide +kernel) ⟨by decide +kernel, by decide +kernel⟩) (prS_R hPc hKc hN) rfl rfl hl.1 rfl (lv_room (Nat.le_of_ble_eq_true rfl)) d_W_writeDifferences_23 ⟨by decide +kernel, by decide +kernel⟩) (fun r_2 hr_2 => ?_)
      obtain rfl : r_2 = (nI (bst L j L2 k2).2) := hr_2
      refine lv_istore (lv' := [(5, .int (nI (bst L j L2 k2).2)), (4, .int (nI j)), (3, .int (nI nw)), (0, .ref h0), (1, .ref h1), (2, .ref h2)]) hx hb d_W_writeDifferences_26 hl (by decide) rfl (fun ls hl => ?_)
      refine lv_aload_n hx hb d_W_writeDifferences_28 rfl (lv_at hl 4 rfl) ?_
      refine lv_iload hx hb d_W_writeDifferences_29 (lv_at hl 1 rfl) ?_
      refine lv_aload_n hx hb d_W_writeDifferences_31 rfl (lv_at hl 5 rfl) ?_
      refine lv_iload hx hb d_W_writeDifferences_32 (lv_at hl 0 rfl) ?_
      have hPc := hP.sub (ws' := [(h1, .inr (1, [.ref hy, .int (nI k)])), (hy, .inl (cB, 256, .inl ((f)))), (h2, .inr (1, [.ref hy2, .int (nI k2)])), (hy2, .inl (cB2, 256, .inl ((fo))))]) [2, 3, 4, 5] rfl
      have hKc := hK.sub (tys' := [(cB, .byte), (cB2, .byte)]) [1, 2] rfl
      refine ps_i (va_runV (As := [.int (nI j), .ref h2, .int (nI (bst L j L2 k2).2)]) (rest := []) ⟨hx, hb, hml, hown, hw0⟩ (g_runWith l dC dI h1 hy cB k (f) _ h2 hy2 cB2 k2 (fo) _ j ((bst L j L2 k2).2) (by first | assumption | decide | omega) (by first | assumption | decide | omega) (by first | assumption | decide | omega) (by first | assumption | decide | omega) (by first | assumption | decide | omega) (by first | assumption | decide | omega)) (cwV 3 hw0 (gd_Vm wm_217 wm_218 wm_219 wm_151 wm_220) rfl rfl rfl (by decide +kernel) ⟨by decide +kernel, by decide +kernel⟩) (prV_R hPc hKc hN (va_recv hKc hPc (ci := 1) (q0 := 0) rfl rfl)) rfl rfl hl.1 rfl (lv_room (Nat.le_of_ble_eq_true rfl)) d_W_writeDifferences_34 ⟨by decide +kernel, by decide +kernel⟩) (fun r_3 hr_3 => ?_)
      obtain rfl : r_3 = (nI (cpl (L.drop j) (L2.drop (bst L j L2 k2).2))) := hr_3
      refine lv_istore (lv' := [(6, .int (nI (cpl (L.drop j) (L2.drop (bst L j L2 k2).2)))), (5, .int (nI (bst L j L2 k2).2)), (4, .int (nI j)), (3, .int (nI nw)), (0, .ref h0), (1, .ref h1), (2, .ref h2)]) hx hb d_W_writeDifferences_37 hl (by decide) rfl (fun ls hl => ?_)
      refine lv_iload hx hb d_W_writeDifferences_39 (lv_at hl 0 rfl) ?_
      refine lv_iconst (v := 4) hx hb d_W_writeDifferences_41 (by decide) ?_
      refine lv_icmp_lt (tgt := 82) hx hb d_W_writeDifferences_42 (by decide) (fun c_4 => ?_) (fun c_4 => ?_)
      · have hs9 : ¬ 4 ≤ (cpl (L.drop j) (L2.drop (bst L j L2 k2).2)) := fun z => absurd (nI_le z (by omega)) (Int32.not_le.mpr c_4)
        refine lv_iinc (v := nI (j + 1)) (lv' := [(4, .int (nI (j + 1))), (6, .int (nI (cpl (L.drop j) (L2.drop (bst L j L2 k2).2)))), (5, .int (nI (bst L j L2 k2).2)), (3, .int (nI nw)), (0, .ref h0), (1, .ref h1), (2, .ref h2)]) hx hb d_W_writeDifferences_82 hl (k := 2) rfl (nI_1 j) (by decide) rfl (fun ls hl => ?_)
        refine lv_goto (tgt := 10) hx hb d_W_writeDifferences_85 (by decide) ?_
        exact ih (j + 1) hlt (by omega) nw q g P F1 (by omega) hf1 hf2 (by omega) (by rw [← hf4, dif_skip htx2.1 (by rw [htx.1]; exact hlt) (fun z => hs9 z)]) _ _ (hP.sub (ws' := [(h0, .inr (3, [.ref hrw, .int (nI q)])), (hrw, .inl (cR, 512, .inl (g))), (h1, .inr (1, [.ref hy, .int (nI k)])), (hy, .inl (cB, 256, .inl (f))), (h2, .inr (1, [.ref hy2, .int (nI k2)])), (hy2, .inl (cB2, 256, .inl (fo)))]) [0, 1, 2, 3, 4, 5] rfl) (hD.sub (ws' := [(h0, .inr (3, [.ref hrw, .int (nI q)])), (hrw, .inl (cR, 512, .inl (g))), (h1, .inr (1, [.ref hy, .int (nI k)])), (hy, .inl (cB, 256, .inl (f))), (h2, .inr (1, [.ref hy2, .int (nI k2)])), (hy2, .inl (cB2, 256, .inl (fo)))]) [0, 1, 2, 3, 4, 5] (by decide) rfl) hS ls (lv_sub hl [0, 3, 4, 5, 6] rfl)
      · have h4 : 4 ≤ (cpl (L.drop j) (L2.drop (bst L j L2 k2).2)) ∧ (cpl (L.drop j) (L2.drop (bst L j L2 k2).2)) ≤ k - j := ⟨(by rcases Nat.lt_or_ge (cpl (L.drop j) (L2.drop (bst L j L2 k2).2)) 4 with z | z; exact absurd (nI_lt z (by decide)) c_4; exact z), hcl⟩; have hil := insE_len (L := L) (a := nw) (b := j) hf0 (by rw [htx.1]; omega); have hd1 := dgt_le (2 * (cpl (L.drop j) (L2.drop (bst L j L2 k2).2)) + 1); have hd2 := dgt_le (bst L j L2 k2).2; have hdi := dgt_ins (j - nw)
        refine lv_aload_n hx hb d_W_writeDifferences_45 rfl (lv_at hl 4 rfl) ?_
        refine lv_aload_n hx hb d_W_writeDifferences_46 rfl (lv_at hl 5 rfl) ?_
        refine lv_iload_n hx hb d_W_writeDifferences_47 rfl (lv_at hl 3 rfl) ?_
        refine lv_iload hx hb d_W_writeDifferences_48 (lv_at hl 2 rfl) ?_
        have hPc := hP.sub (ws' := [(h0, .inr (3, [.ref hrw, .int (nI q)])), (hrw, .inl (cR, 512, .inl ((g)))), (h1, .inr (1, [.ref hy, .int (nI k)])), (hy, .inl (cB, 256, .inl ((f))))]) [0, 1, 2, 3] rfl
        have hKc := hK.sub (tys' := [(cR, .byte), (cB, .byte)]) [0, 1] rfl
        have hDc := hD.sub (ws' := [(h0, .inr (3, [.ref hrw, .int (nI q)])), (hrw, .inl (cR, 512, .inl ((g)))), (h1, .inr (1, [.ref hy, .int (nI k)])), (hy, .inl (cB, 256, .inl ((f))))]) [0, 1, 2, 3] (by decide) rfl
        have hFc := va_free (wc := [(h0, .inr (3, [.ref hrw, .int (nI q)])), (hrw, .inl (cR, 512, .inl ((g)))), (h1, .inr (1, [.ref hy, .int (nI k)])), (hy, .inl (cB, 256, .inl ((f))))]) hD hS hA [0, 1, 2, 3] rfl
        refine va_callv (va_runV (As := [.ref h1, .int (nI nw), .int (nI j)]) (rest := []) ⟨hx, hb, hml, hown, hw0⟩ (g_writeInsert l dC dI H.size h0 hrw cR q (g) _ h1 hy cB k (f) _ nw j (by first | assumption | decide | omega) (by first | assumption | decide | omega) (by first | assumption | decide | omega) (by first | assumption | decide | omega) (by first | assumption | decide | omega) (by first | assumption | decide | omega)) (cwV 3 hw0 (gd_Vm wm_224 wm_225 wm_226 wm_176 wm_227) rfl rfl rfl (by decide +kernel) ⟨by decide +kernel, by decide +kernel⟩) (prV_E hPc hKc hDc hN (va_recv hKc hPc (ci := 3) (q0 := 0) rfl rfl)) rfl rfl hl.1 rfl (lv_room (Nat.le_of_ble_eq_true rfl)) d_W_writeDifferences_50 ⟨by decide +kernel, by decide +kernel⟩) hS (fun q _ h => hFc q h) hFc (fun u t H1 locs ht hvm hw hB hz1 hk1 hS => ?_)
        obtain ⟨q2_5, g2_6, ⟨hu_7_0, hu_7_1⟩, hP1, hK1, hD1⟩ := hB
        rw [ht] at hP1
        have hK1 := va_K.moved hvm.symm hK1
        try dsimp only at hw
        obtain ⟨hP, hD⟩ := va_join (wr := [(h2, .inr (1, [.ref hy2, .int (nI k2)])), (hy2, .inl (cB2, 256, .inl (fo)))]) (w1 := [(h0, .inr (3, [.ref hrw, .int (nI q2_5)])), (hrw, .inl (cR, 512, .inl (g2_6))), (h1, .inr (1, [.ref hy, .int (nI k)])), (hy, .inl (cB, 256, .inl ((f))))]) hP hD [0, 1, 2, 3] [4, 5] rfl rfl (by decide) (by decide) hk1 hFc hP1 hD1
        generalize H1 = H at hP hS ⊢
        replace hP : va_P (dC, dI) vwCl [(h2, .inr (1, [.ref hy2, .int (nI k2)])), (hy2, .inl (cB2, 256, .inl (fo))), (h0, .inr (3, [.ref hrw, .int (nI q2_5)])), (hrw, .inl (cR, 512, .inl (g2_6))), (h1, .inr (1, [.ref hy, .int (nI k)])), (hy, .inl (cB, 256, .inl ((f))))] H := hP
        replace hD : va_D A [(h2, .inr (1, [.ref hy2, .int (nI k2)])), (hy2, .inl (cB2, 256, .inl (fo))), (h0, .inr (3, [.ref hrw, .int (nI q2_5)])), (hrw, .inl (cR, 512, .inl (g2_6))), (h1, .inr (1, [.ref hy, .int (nI k)])), (hy, .inl (cB, 256, .inl ((f))))] := hD
        replace hK : va_K (dC, dI) vwCl [(cR, .byte), (cB, .byte), (cB2, .byte)] s := hK
        refine lv_aload_n hx hb d_W_writeDifferences_53 rfl (lv_at hl 4 rfl) ?_
        refine lv_iconst (v := 2) hx hb d_W_writeDifferences_54 (by decide) ?_
        refine lv_iload hx hb d_W_writeDifferences_55 (lv_at hl 0 rfl) ?_
        refine lv_imul hx hb d_W_writeDifferences_57 ?_
        refine lv_topi (fun x_8 ex_8 => ?_)
        obtain rfl : x_8 = (nI (2 * (cpl (L.drop j) (L2.drop (bst L j L2 k2).2)))) := by rw [ex_8]; exact (show nI 2 * nI _ = nI (2 * _) from pk_mul 2 _)
        clear ex_8
        refine lv_iconst (v := 1) hx hb d_W_writeDifferences_58 (by decide) ?_
        refine lv_iadd hx hb d_W_writeDifferences_59 ?_
        refine lv_topi (fun x_9 ex_9 => ?_)
        obtain rfl : x_9 = (nI (2 * (cpl (L.drop j) (L2.drop (bst L j L2 k2).2)) + 1)) := by rw [ex_9]; exact nI_1 _
        clear ex_9
        have hPc := hP.sub (ws' := [(h0, .inr (3, [.ref hrw, .int (nI q2_5)])), (hrw, .inl (cR, 512, .inl ((g2_6))))]) [2, 3] rfl
        have hKc := hK.sub (tys' := [(cR, .byte)]) [0] rfl
        have hDc := hD.sub (ws' := [(h0, .inr (3, [.ref hrw, .int (nI q2_5)])), (hrw, .inl (cR, 512, .inl ((g2_6))))]) [2, 3] (by decide) rfl
        have hFc := va_free (wc := [(h0, .inr (3, [.ref hrw, .int (nI q2_5)])), (hrw, .inl (cR, 512, .inl ((g2_6))))]) hD hS hA [2, 3] rfl
        refine va_callv (va_runV (As := [.int (nI (2 * (cpl (L.drop j) (L2.drop (bst L j L2 k2).2)) + 1))]) (rest := []) ⟨hx, hb, hml, hown, hw0⟩ (g_writeNumber l dC dI H.size h0 hrw cR q2_5 (g2_6) _ (2 * (cpl (L.drop j) (L2.drop (bst L j L2 k2).2)) + 1) (by first | assumption | decide | omega) (by first | assumption | decide | omega) (by first | assumption | decide | omega)) (cwV 1 hw0 (gd_Vm wm_213 wm_214 wm_215 wm_176 wm_216) rfl rfl rfl (by decide +kernel) ⟨by decide +kernel, by decide +kernel⟩) (prV_E hPc hKc hDc hN (va_recv hKc hPc (ci := 3) (q0 := 0) rfl rfl)) rfl rfl hl.1 rfl (lv_room (Nat.le_of_ble_eq_true rfl)) d_W_writeDifferences_60 ⟨by decide +kernel, by decide +kernel⟩) hS (fun q _ h => hFc q h) hFc (fun u t H1 locs ht hvm hw hB hz1 hk1 hS => ?_)
        obtain ⟨q2_10, g2_11, ⟨hu_12_0, hu_12_1⟩, hP1, hK1, hD1⟩ := hB
        rw [ht] at hP1
        have hK1 := va_K.moved hvm.symm hK1
        try dsimp only at hw
        obtain ⟨hP, hD⟩ := va_join (wr := [(h2, .inr (1, [.ref hy2, .int (nI k2)])), (hy2, .inl (cB2, 256, .inl (fo))), (h1, .inr (1, [.ref hy, .int (nI k)])), (hy, .inl (cB, 256, .inl ((f))))]) (w1 := [(h0, .inr (3, [.ref hrw, .int (nI q2_10)])), (hrw, .inl (cR, 512, .inl (g2_11)))]) hP hD [2, 3] [0, 1, 4, 5] rfl rfl (by decide) (by decide) hk1 hFc hP1 hD1
        generalize H1 = H at hP hS ⊢
        replace hP : va_P (dC, dI) vwCl [(h2, .inr (1, [.ref hy2, .int (nI k2)])), (hy2, .inl (cB2, 256, .inl (fo))), (h1, .inr (1, [.ref hy, .int (nI k)])), (hy, .inl (cB, 256, .inl ((f)))), (h0, .inr (3, [.ref hrw, .int (nI q2_10)])), (hrw, .inl (cR, 512, .inl (g2_11)))] H := hP
        replace hD : va_D A [(h2, .inr (1, [.ref hy2, .int (nI k2)])), (hy2, .inl (cB2, 256, .inl (fo))), (h1, .inr (1, [.ref hy, .int (nI k)])), (hy, .inl (cB, 256, .inl ((f)))), (h0, .inr (3, [.ref hrw, .int (nI q2_10)])), (hrw, .inl (cR, 512, .inl (g2_11)))] := hD
        replace hK : va_K (dC, dI) vwCl [(cR, .byte), (cB, .byte), (cB2, .byte)] s := hK
        refine lv_aload_n hx hb d_W_writeDifferences_63 rfl (lv_at hl 4 rfl) ?_
        refine lv_iload hx hb d_W_writeDifferences_64 (lv_at hl 1 rfl) ?_
        have hPc := hP.sub (ws' := [(h0, .inr (3, [.ref hrw, .int (nI q2_10)])), (hrw, .inl (cR, 512, .inl ((g2_11))))]) [4, 5] rfl
        have hKc := hK.sub (tys' := [(cR, .byte)]) [0] rfl
        have hDc := hD.sub (ws' := [(h0, .inr (3, [.ref hrw, .int (nI q2_10)])), (hrw, .inl (cR, 512, .inl ((g2_11))))]) [4, 5] (by decide) rfl
        have hFc := va_free (wc := [(h0, .inr (3, [.ref hrw, .int (nI q2_10)])), (hrw, .inl (cR, 512, .inl ((g2_11))))]) hD hS hA [4, 5] rfl
        refine va_callv (va_runV (As := [.int (nI (bst L j L2 k2).2)]) (rest := []) ⟨hx, hb, hml, hown, hw0⟩ (g_writeNumber l dC dI H.size h0 hrw cR q2_10 (g2_11) _ ((bst L j L2 k2).2) (by first | assumption | decide | omega) (by first | assumption | decide | omega) (by first | assumption | decide | omega)) (cwV 1 hw0 (gd_Vm wm_213 wm_214 wm_215 wm_176 wm_216) rfl rfl rfl (by decide +kernel) ⟨by decide +kernel, by decide +kernel⟩) (prV_E hPc hKc hDc hN (va_recv hKc hPc (ci := 3) (q0 := 0) rfl rfl)) rfl rfl hl.1 rfl (lv_room (Nat.le_of_ble_eq_true rfl)) d_W_writeDifferences_66 ⟨by decide +kernel, by decide +kernel⟩) hS (fun q _ h => hFc q h) hFc (fun u t H1 locs ht hvm hw hB hz1 hk1 hS => ?_)
        obtain ⟨q2_13, g2_14, ⟨hu_15_0, hu_15_1⟩, hP1, hK1, hD1⟩ := hB
        rw [ht] at hP1
        have hK1 := va_K.moved hvm.symm hK1
        try dsimp only at hw
        obtain ⟨hP, hD⟩ := va_join (wr := [(h2, .inr (1, [.ref hy2, .int (nI k2)])), (hy2, .inl (cB2, 256, .inl (fo))), (h1, .inr (1, [.ref hy, .int (nI k)])), (hy, .inl (cB, 256, .inl ((f))))]) (w1 := [(h0, .inr (3, [.ref hrw, .int (nI q2_13)])), (hrw, .inl (cR, 512, .inl (g2_14)))]) hP hD [4, 5] [0, 1, 2, 3] rfl rfl (by decide) (by decide) hk1 hFc hP1 hD1
        generalize H1 = H at hP hS ⊢
        replace hP : va_P (dC, dI) vwCl [(h2, .inr (1, [.ref hy2, .int (nI k2)])), (hy2, .inl (cB2, 256, .inl (fo))), (h1, .inr (1, [.ref hy, .int (nI k)])), (hy, .inl (cB, 256, .inl ((f)))), (h0, .inr (3, [.ref hrw, .int (nI q2_13)])), (hrw, .inl (cR, 512, .inl (g2_14)))] H := hP
        replace hD : va_D A [(h2, .inr (1, [.ref hy2, .int (nI k2)])), (hy2, .inl (cB2, 256, .inl (fo))), (h1, .inr (1, [.ref hy, .int (nI k)])), (hy, .inl (cB, 256, .inl ((f)))), (h0, .inr (3, [.ref hrw, .int (nI q2_13)])), (hrw, .inl (cR, 512, .inl (g2_14)))] := hD
        replace hK : va_K (dC, dI) vwCl [(cR, .byte), (cB, .byte), (cB2, .byte)] s := hK
        refine lv_iload hx hb d_W_writeDifferences_69 (lv_at hl 2 rfl) ?_
        refine lv_iload hx hb d_W_writeDifferences_71 (lv_at hl 0 rfl) ?_
        refine lv_iadd hx hb d_W_writeDifferences_73 ?_
        refine lv_topi (fun x_16 ex_16 => ?_)
        obtain rfl : x_16 = (nI (j + (cpl (L.drop j) (L2.drop (bst L j L2 k2).2)))) := by rw [ex_16]; exact nI_add j _
        clear ex_16
        refine lv_istore (lv' := [(4, .int (nI (j + (cpl (L.drop j) (L2.drop (bst L j L2 k2).2))))), (6, .int (nI (cpl (L.drop j) (L2.drop (bst L j L2 k2).2)))), (5, .int (nI (bst L j L2 k2).2)), (3, .int (nI nw)), (0, .ref h0), (1, .ref h1), (2, .ref h2)]) hx hb d_W_writeDifferences_74 hl (by decide) rfl (fun ls hl => ?_)
        refine lv_iload hx hb d_W_writeDifferences_76 (lv_at hl 0 rfl) ?_
        refine lv_istore_n (lv' := [(3, .int (nI (j + (cpl (L.drop j) (L2.drop (bst L j L2 k2).2))))), (4, .int (nI (j + (cpl (L.drop j) (L2.drop (bst L j L2 k2).2))))), (6, .int (nI (cpl (L.drop j) (L2.drop (bst L j L2 k2).2)))), (5, .int (nI (bst L j L2 k2).2)), (0, .ref h0), (1, .ref h1), (2, .ref h2)]) hx hb d_W_writeDifferences_78 rfl hl (by decide) rfl (fun ls hl => ?_)
        refine lv_goto (tgt := 85) hx hb d_W_writeDifferences_79 (by decide) ?_
        refine lv_goto (tgt := 10) hx hb d_W_writeDifferences_85 (by decide) ?_
        exact ih (j + (cpl (L.drop j) (L2.drop (bst L j L2 k2).2))) (by omega) (by omega) (j + (cpl (L.drop j) (L2.drop (bst L j L2 k2).2))) q2_13 g2_14 (((P ++ insE L nw j) ++ encN (2 * (cpl (L.drop j) (L2.drop (bst L j L2 k2).2)) + 1)) ++ encN (bst L j L2 k2).2) F1 (Nat.le_refl _) hu_15_1 (by omega) (by omega) (by rw [← hf4, dif_copy htx2.1 (by rw [htx.1]; exact hlt) h4.1]; simp only [List.append_assoc]) _ _ (hP.sub (ws' := [(h0, .inr (3, [.ref hrw, .int (nI q2_13)])), (hrw, .inl (cR, 512, .inl (g2_14))), (h1, .inr (1, [.ref hy, .int (nI k)])), (hy, .inl (cB, 256, .inl (f))), (h2, .inr (1, [.ref hy2, .int (nI k2)])), (hy2, .inl (cB2, 256, .inl (fo)))]) [4, 5, 2, 3, 0, 1] rfl) (hD.sub (ws' := [(h0, .inr (3, [.ref hrw, .int (nI q2_13)])), (hrw, .inl (cR, 512, .inl (g2_14))), (h1, .inr (1, [.ref hy, .int (nI k)])), (hy, .inl (cB, 256, .inl (f))), (h2, .inr (1, [.ref hy2, .int (nI k2)])), (hy2, .inl (cB2, 256, .inl (fo)))]) [4, 5, 2, 3, 0, 1] (by decide) rfl) hS ls (lv_sub hl [1, 0, 4, 5, 6] rfl)
set_option maxHeartbeats 4000000 in
set_option maxRecDepth 100000 in
theorem g_writeDifferences (l : Launch) (dC : Nat → ClassId) (dI : Nat → Nat → Nat) (sz : Nat) (h0 : Nat) (hrw : Nat) (cR : ClassId) (q : Nat) (g : Nat → Int32) (h1 : Nat) (hy : Nat) (cB : ClassId) (k : Nat) (f : Nat → Int32) (L : List Int32) (h2 : Nat) (hy2 : Nat) (cB2 : ClassId) (k2 : Nat) (fo : Nat → Int32) (L2 : List Int32) (htx : tx L k f) (htx2 : tx L2 k2 fo) (hk : k ≤ 256) (hk2 : k2 ≤ 256) : Met l y_W_writeDifferences k_W_writeDifferences ({ frames := 3, cells := 0, slots := 0, locals := 75 } : Room) (va_Pc [.ref h0, .ref h1, .ref h2] (pc_E (dC, dI) [(h0, .inr (3, [.ref hrw, .int (nI q)])), (hrw, .inl (cR, 512, .inl (g))), (h1, .inr (1, [.ref hy, .int (nI k)])), (hy, .inl (cB, 256, .inl (f))), (h2, .inr (1, [.ref hy2, .int (nI k2)])), (hy2, .inl (cB2, 256, .inl (fo)))] [(cR, .byte), (cB, .byte), (cB2, .byte)] sz)) (va_Qv (fun (_ : Unit) => True) (fun (_ : Unit) t => ∃ (q2 : Nat) (g2 : Nat → Int32), (q2 ≤ 512 ∧ tx (dif L L2 k 0 0) q2 g2) ∧ at_E (dC, dI) (va_A [(h0, .inr (3, [.ref hrw, .int (nI q)])), (hrw, .inl (cR, 512, .inl (g))), (h1, .inr (1, [.ref hy, .int (nI k)])), (hy, .inl (cB, 256, .inl (f))), (h2, .inr (1, [.ref hy2, .int (nI k2)])), (hy2, .inl (cB2, 256, .inl (fo)))] sz) [(h0, .inr (3, [.ref hrw, .int (nI q2)])), (hrw, .inl (cR, 512, .inl (g2))), (h1, .inr (1, [.ref hy, .int (nI k)])), (hy, .inl (cB, 256, .inl (f))), (h2, .inr (1, [.ref hy2, .int (nI k2)])), (hy2, .inl (cB2, 256, .inl (fo)))] [(cR, .byte), (cB, .byte), (cB2, .byte)] t) (va_A [(h0, .inr (3, [.ref hrw, .int (nI q)])), (hrw, .inl (cR, 512, .inl (g))), (h1, .inr (1, [.ref hy, .int (nI k)])), (hy, .inl (cB, 256, .inl (f))), (h2, .inr (1, [.ref hy2, .int (nI k2)])), (hy2, .inl (cB2, 256, .inl (fo)))] sz)) 0 0 (va_A [(h0, .inr (3, [.ref hrw, .int (nI q)])), (hrw, .inl (cR, 512, .inl (g))), (h1, .inr (1, [.ref hy, .int (nI k)])), (hy, .inl (cB, 256, .inl (f))), (h2, .inr (1, [.ref hy2, .int (nI k2)])), (hy2, .inl (cB2, 256, .inl (fo)))] sz) := by
  refine Met.ofW (cc := prog_4_method_3_code) (maxL := 7) (ret := none) (by decide) rfl ?_
  intro p e s m args below meth c s₁ B hml hv
  obtain ⟨rfl, hsz, hP, hK, hD0, hN⟩ := hv
  have hx := B.exec
  have hb := B.bytes
  have hr := B.returns
  have hts := atoms_spec (ws := k_W_writeDifferences) B.pre
  have hw0 : ∀ w ∈ w0, w.before _ s = true := fun w h => hts w (List.mem_cons_of_mem _ h)
  have hown : s.vm.findClass R_W = some m.cls := findClass_of_methodNamed B.named
  have hlocks := B.notSynchronized
  subst hsz
  have hD := hD0.self (sz := s.heap.size)
  generalize hAe : va_A [(h0, .inr (3, [.ref hrw, .int (nI q)])), (hrw, .inl (cR, 512, .inl (g))), (h1, .inr (1, [.ref hy, .int (nI k)])), (hy, .inl (cB, 256, .inl (f))), (h2, .inr (1, [.ref hy2, .int (nI k2)])), (hy2, .inl (cB2, 256, .inl (fo)))] s.heap.size = A at hD ⊢
  have hA : ∀ q : Nat, s.heap.size ≤ q → A q := fun q h => by rw [← hAe]; exact Or.inr h
  have hS : va_S A s.heap s.heap [] := va_S.rf
  have hP : va_P (dC, dI) vwCl [(h0, .inr (3, [.ref hrw, .int (nI q)])), (hrw, .inl (cR, 512, .inl (g))), (h1, .inr (1, [.ref hy, .int (nI k)])), (hy, .inl (cB, 256, .inl (f))), (h2, .inr (1, [.ref hy2, .int (nI k2)])), (hy2, .inl (cB2, 256, .inl (fo)))] s.heap := hP
  have hl := lv_entry ([.ref h0, .ref h1, .ref h2]) (n := 7) (Nat.le_of_ble_eq_true rfl)
  rw [lg_entry_eq]
  generalize (lg_sl ([.ref h0, .ref h1, .ref h2]) ++ List.replicate (7 - (lg_sl ([.ref h0, .ref h1, .ref h2])).length) Slot.unset).toArray = ls at hl ⊢
  have hl : lv_has ls 7 [(0, .ref h0), (1, .ref h1), (2, .ref h2)] := hl
  refine lv_aload_n hx hb d_W_writeDifferences_0 rfl (lv_at hl 0 rfl) ?_
  refine lv_iconst (v := 0) hx hb d_W_writeDifferences_1 (by decide) ?_
  refine va_put (D := (dC, dI)) (ci := 3) (v := .int 0) (ty := .int) (C := R_W) (T := F_W) (N := 2) hx hb hw0 in_W ft_W tk_W nk_W hown hK hP hD hS 0 rfl rfl 1 (by decide) (hw0 (.fieldLink R_W 15 "TextKeeper$PieceWriter" "length" "I") wm_147) (fun _ h9 => h9) rfl (by decide +kernel) rfl rfl (Nat.le_of_ble_eq_true rfl) d_W_writeDifferences_2 (fun H locs hP hD hS => ?_)
  replace hP : va_P (dC, dI) vwCl [(h0, .inr (3, [.ref hrw, .int 0])), (hrw, .inl (cR, 512, .inl (g))), (h1, .inr (1, [.ref hy, .int (nI k)])), (hy, .inl (cB, 256, .inl (f))), (h2, .inr (1, [.ref hy2, .int (nI k2)])), (hy2, .inl (cB2, 256, .inl (fo)))] H := hP
  replace hD : va_D A [(h0, .inr (3, [.ref hrw, .int 0])), (hrw, .inl (cR, 512, .inl (g))), (h1, .inr (1, [.ref hy, .int (nI k)])), (hy, .inl (cB, 256, .inl (f))), (h2, .inr (1, [.ref hy2, .int (nI k2)])), (hy2, .inl (cB2, 256, .inl (fo)))] := hD
  refine lv_iconst (v := 0) hx hb d_W_writeDifferences_5 (by decide) ?_
  refine lv_istore_n (lv' := [(3, .int 0), (0, .ref h0), (1, .ref h1), (2, .ref h2)]) hx hb d_W_writeDifferences_6 rfl hl (by decide) rfl (fun ls hl => ?_)
  refine lv_iconst (v := 0) hx hb d_W_writeDifferences_7 (by decide) ?_
  refine lv_istore (lv' := [(4, .int 0), (3, .int 0), (0, .ref h0), (1, .ref h1), (2, .ref h2)]) hx hb d_W_writeDifferences_8 hl (by decide) rfl (fun ls hl => ?_)
  refine lq_dif h0 hrw cR h1 hy cB k f L h2 hy2 cB2 k2 fo L2 (dif L L2 k 0 0) htx htx2 hk hk2 hx hb hml hown hw0 hN (hK.sub (tys' := [(cR, .byte), (cB, .byte), (cB2, .byte)]) [0, 1, 2] rfl) hA (fun nw9 q9 g9 P9 F9 hf0 hf1 hf2 hf3 hf4 H locs hP hD hS ls hl => ?_) (k + 1) 0 (by omega) (by omega) 0 0 g [] k (Nat.le_refl 0) (tx_nil _) (by omega) (by omega) rfl _ _ (hP.sub (ws' := [(h0, .inr (3, [.ref hrw, .int (nI 0)])), (hrw, .inl (cR, 512, .inl (g))), (h1, .inr (1, [.ref hy, .int (nI k)])), (hy, .inl (cB, 256, .inl (f))), (h2, .inr (1, [.ref hy2, .int (nI k2)])), (hy2, .inl (cB2, 256, .inl (fo)))]) [0, 1, 2, 3, 4, 5] rfl) (hD.sub (ws' := [(h0, .inr (3, [.ref hrw, .int (nI 0)])), (hrw, .inl (cR, 512, .inl (g))), (h1, .inr (1, [.ref hy, .int (nI k)])), (hy, .inl (cB, 256, .inl (f))), (h2, .inr (1, [.ref hy2, .int (nI k2)])), (hy2, .inl (cB2, 256, .inl (fo)))]) [0, 1, 2, 3, 4, 5] (by decide) rfl) hS ls (lv_sub hl [0, 1, 2, 3, 4] rfl)
  replace hK := hK.sub (tys' := [(cR, .byte), (cB, .byte), (cB2, .byte)]) [0, 1, 2] rfl
  have hdi := dgt_ins (k - nw9)
  refine lv_aload_n hx hb d_W_writeDifferences_88 rfl (lv_at hl 2 rfl) ?_
  refine lv_aload_n hx hb d_W_writeDifferences_89 rfl (lv_at hl 3 rfl) ?_
  refine lv_iload_n hx hb d_W_writeDifferences_90 rfl (lv_at hl 1 rfl) ?_
  refine lv_aload_n hx hb d_W_writeDifferences_91 rfl (lv_at hl 3 rfl) ?_
  refine va_getN (D := (dC, dI)) (ci := 1) (v := .int (nI k)) (C := R_T) (T := F_T) (N := 2) hx hb hw0 in_T hown hK hP 2 rfl rfl 1 (by decide) (va_Nw.use rfl (hN.1 (.fieldLinkNest R_W 23 "TextKeeper$Text" "length" "I" "TextKeeper") (List.mem_of_getElem? (i := 6) rfl))) (fun _ h9 => h9) rfl d_W_writeDifferences_92 ?_
  have hPc := hP.sub (ws' := [(h0, .inr (3, [.ref hrw, .int (nI q9)])), (hrw, .inl (cR, 512, .inl ((g9)))), (h1, .inr (1, [.ref hy, .int (nI k)])), (hy, .inl (cB, 256, .inl ((f))))]) [0, 1, 2, 3] rfl
  have hKc := hK.sub (tys' := [(cR, .byte), (cB, .byte)]) [0, 1] rfl
  have hDc := hD.sub (ws' := [(h0, .inr (3, [.ref hrw, .int (nI q9)])), (hrw, .inl (cR, 512, .inl ((g9)))), (h1, .inr (1, [.ref hy, .int (nI k)])), (hy, .inl (cB, 256, .inl ((f))))]) [0, 1, 2, 3] (by decide) rfl
  have hFc := va_free (wc := [(h0, .inr (3, [.ref hrw, .int (nI q9)])), (hrw, .inl (cR, 512, .inl ((g9)))), (h1, .inr (1, [.ref hy, .int (nI k)])), (hy, .inl (cB, 256, .inl ((f))))]) hD hS hA [0, 1, 2, 3] rfl
  refine va_callv (va_runV (As := [.ref h1, .int (nI nw9), .int (nI k)]) (rest := []) ⟨hx, hb, hml, hown, hw0⟩ (g_writeInsert l dC dI H.size h0 hrw cR q9 (g9) _ h1 hy cB k (f) _ nw9 k (by first | assumption | decide | omega) (by first | assumption | decide | omega) (by first | assumption | decide | omega) (by first | assumption | decide | omega) (by first | assumption | decide | omega) (by first | assumption | decide | omega)) (cwV 3 hw0 (gd_Vm wm_224 wm_225 wm_226 wm_176 wm_227) rfl rfl rfl (by decide +kernel) ⟨by decide +kernel, by decide +kernel⟩) (prV_E hPc hKc hDc hN (va_recv hKc hPc (ci := 3) (q0 := 0) rfl rfl)) rfl rfl hl.1 rfl (lv_room (Nat.le_of_ble_eq_true rfl)) d_W_writeDifferences_95 ⟨by decide +kernel, by decide +kernel⟩) hS (fun q _ h => hFc q h) hFc (fun u t H1 locs ht hvm hw hB hz1 hk1 hS => ?_)
  obtain ⟨q2_1, g2_2, ⟨hu_3_0, hu_3_1⟩, hP1, hK1, hD1⟩ := hB
  rw [ht] at hP1
  have hK1 := va_K.moved hvm.symm hK1
  try dsimp only at hw
  obtain ⟨hP, hD⟩ := va_join (wr := [(h2, .inr (1, [.ref hy2, .int (nI k2)])), (hy2, .inl (cB2, 256, .inl (fo)))]) (w1 := [(h0, .inr (3, [.ref hrw, .int (nI q2_1)])), (hrw, .inl (cR, 512, .inl (g2_2))), (h1, .inr (1, [.ref hy, .int (nI k)])), (hy, .inl (cB, 256, .inl ((f))))]) hP hD [0, 1, 2, 3] [4, 5] rfl rfl (by decide) (by decide) hk1 hFc hP1 hD1
  generalize H1 = H at hP hS ⊢
  replace hP : va_P (dC, dI) vwCl [(h2, .inr (1, [.ref hy2, .int (nI k2)])), (hy2, .inl (cB2, 256, .inl (fo))), (h0, .inr (3, [.ref hrw, .int (nI q2_1)])), (hrw, .inl (cR, 512, .inl (g2_2))), (h1, .inr (1, [.ref hy, .int (nI k)])), (hy, .inl (cB, 256, .inl ((f))))] H := hP
  replace hD : va_D A [(h2, .inr (1, [.ref hy2, .int (nI k2)])), (hy2, .inl (cB2, 256, .inl (fo))), (h0, .inr (3, [.ref hrw, .int (nI q2_1)])), (hrw, .inl (cR, 512, .inl (g2_2))), (h1, .inr (1, [.ref hy, .int (nI k)])), (hy, .inl (cB, 256, .inl ((f))))] := hD
  replace hK : va_K (dC, dI) vwCl [(cR, .byte), (cB, .byte), (cB2, .byte)] s := hK
  have hP9 := hP.sub (ws' := [(h0, .inr (3, [.ref hrw, .int (nI q2_1)])), (hrw, .inl (cR, 512, .inl (g2_2))), (h1, .inr (1, [.ref hy, .int (nI k)])), (hy, .inl (cB, 256, .inl (f))), (h2, .inr (1, [.ref hy2, .int (nI k2)])), (hy2, .inl (cB2, 256, .inl (fo)))]) [2, 3, 4, 5, 0, 1] rfl
  have hD9 := hD.sub (ws' := [(h0, .inr (3, [.ref hrw, .int (nI q2_1)])), (hrw, .inl (cR, 512, .inl (g2_2))), (h1, .inr (1, [.ref hy, .int (nI k)])), (hy, .inl (cB, 256, .inl (f))), (h2, .inr (1, [.ref hy2, .int (nI k2)])), (hy2, .inl (cB2, 256, .inl (fo)))]) [2, 3, 4, 5, 0, 1] (by decide) rfl
  have hK9 := hK.sub (tys' := [(cR, .byte), (cB, .byte), (cB2, .byte)]) [0, 1, 2] rfl
  exact W.vret hx hb hr (fun t ht hW => ⟨⟨(), rfl, trivial, q2_1, g2_2, (x_difE htx.1 hf0 hf2 hk hf4 hu_3_0 hu_3_1), by rw [ht]; exact hP9, va_K.moved hW.alike hK9, hD9⟩, hS.F ht⟩) hS.2.2 d_W_writeDifferences_98
set_option maxHeartbeats 4000000 in
set_option maxRecDepth 100000 in
theorem g_copyOf (l : Launch) (dC : Nat → ClassId) (dI : Nat → Nat → Nat) (sz : Nat) (hs : Nat) (cR : ClassId) (g : Nat → Int32) (q : Nat) (P : List Int32) (hp : tx P q g) (hq : q ≤ 258) : Met l y_A_copyOf k_A_copyOf ({ frames := 1, cells := 1, slots := 258, locals := 40 } : Room) (va_Pc [.ref hs, .int (nI q)] (pc_E (dC, dI) [(hs, .inl (cR, 512, .inl (g)))] [(cR, .byte)] sz)) (va_Qr (fun (_ : Unit) => True) (fun (_ : Unit) ra t => ∃ (cP : ClassId) (f2 : Nat → Int32), (tx P q f2) ∧ at_E (dC, dI) (va_A [(hs, .inl (cR, 512, .inl (g)))] sz) [(hs, .inl (cR, 512, .inl (g))), (ra, .inl (cP, q, .inl (f2)))] [(cR, .byte), (cP, .byte)] t) (va_A [(hs, .inl (cR, 512, .inl (g)))] sz)) 1 258 (va_A [(hs, .inl (cR, 512, .inl (g)))] sz) := by
  refine Met.ofW (cc := prog_19_method_121_code) (maxL := 3) (ret := (some (.array .byte))) (by decide) rfl ?_
  intro p e s m args below meth c s₁ B hml hv
  obtain ⟨rfl, hsz, hP, hK, hD0, hN⟩ := hv
  have hx := B.exec
  have hb := B.bytes
  have hr := B.returns
  have hts := atoms_spec (ws := k_A_copyOf) B.pre
  have hw0 : ∀ w ∈ w0, w.before _ s = true := fun w h => hts w (List.mem_cons_of_mem _ h)
  have hown : s.vm.findClass R_A = some m.cls := findClass_of_methodNamed B.named
  have hlocks := B.notSynchronized
  subst hsz
  have hD := hD0.self (sz := s.heap.size)
  generalize hAe : va_A [(hs, .inl (cR, 512, .inl (g)))] s.heap.size = A at hD ⊢
  have hA : ∀ q : Nat, s.heap.size ≤ q → A q := fun q h => by rw [← hAe]; exact Or.inr h
  have hS : va_S A s.heap s.heap [] := va_S.rf
  have hP : va_P (dC, dI) vwCl [(hs, .inl (cR, 512, .inl (g)))] s.heap := hP
  have hl := lv_entry ([.ref hs, .int (nI q)]) (n := 3) (Nat.le_of_ble_eq_true rfl)
  rw [lg_entry_eq]
  generalize (lg_sl ([.ref hs, .int (nI q)]) ++ List.replicate (3 - (lg_sl ([.ref hs, .int (nI q)])).length) Slot.unset).toArray = ls at hl ⊢
  have hl : lv_has ls 3 [(0, .ref hs), (1, .int (nI q))] := hl
  refine lv_iload_n hx hb d_A_copyOf_0 rfl (lv_at hl 1 rfl) ?_
  refine lv_aload_n hx hb d_A_copyOf_1 rfl (lv_at hl 0 rfl) ?_
  refine va_alen (v := 512) hx hb hK hP 0 0 rfl rfl (show Int32.ofNat 512 = 512 from by decide +kernel) d_A_copyOf_2 ?_
  refine lv_icmp_ne (tgt := 14) hx hb d_A_copyOf_3 (by decide) (fun c_1 => ?_) (fun c_1 => absurd ((nI_eq (a := q) (b := 512) (by omega) (by decide)).mp c_1) (by omega))
  refine lv_iload_n hx hb d_A_copyOf_14 rfl (lv_at hl 1 rfl) ?_
  refine va_newa (atype := .byte) (ty := .byte) (N' := q) (a0 := (q, .inl (fun _ => 0))) hx hb (hw0 (.arrayClass .byte) wm_142) rfl hK hP hD hS hA (fun _ => rfl) (nI_pos (by omega)) (nI_clamp (by omega)) (by show q * 1 ≤ 536870912; omega) (by decide +kernel) (by show 0 + q ≤ 258; omega) d_A_copyOf_15 (fun q_2 cA_3 H hK hP hD hS => ?_)
  replace hK : va_K (dC, dI) vwCl [(cR, .byte), (cA_3, .byte)] s := hK
  replace hP : va_P (dC, dI) vwCl [(hs, .inl (cR, 512, .inl (g))), (q_2, .inl (cA_3, q, .inl (fun _ => 0)))] H := hP
  replace hD : va_D A [(hs, .inl (cR, 512, .inl (g))), (q_2, .inl (cA_3, q, .inl (fun _ => 0)))] := hD
  refine W.widen (k := 1) (n := 258) (by decide +kernel) (by omega) ?_
  refine lv_astore_n (lv' := [(2, .ref q_2), (0, .ref hs), (1, .int (nI q))]) hx hb d_A_copyOf_17 rfl hl (by decide) rfl (fun ls hl => ?_)
  refine lv_aload_n hx hb d_A_copyOf_18 rfl (lv_at hl 1 rfl) ?_
  refine lv_iconst (v := 0) hx hb d_A_copyOf_19 (by decide) ?_
  refine lv_aload_n hx hb d_A_copyOf_20 rfl (lv_at hl 0 rfl) ?_
  refine lv_iconst (v := 0) hx hb d_A_copyOf_21 (by decide) ?_
  refine lv_aload_n hx hb d_A_copyOf_22 rfl (lv_at hl 1 rfl) ?_
  refine va_alen (v := 512) hx hb hK hP 0 0 rfl rfl (show Int32.ofNat 512 = 512 from by decide +kernel) d_A_copyOf_23 ?_
  refine lv_iload_n hx hb d_A_copyOf_24 rfl (lv_at hl 2 rfl) ?_
  refine va_mmin hx hb (hml.trans hl.1.symm) hown (hw0 (.methodLink R_A 304 ⟨"java/lang/Math","min","(II)I"⟩) wm_228) (hw0 (.static ⟨"java/lang/Math","min","(II)I"⟩) wm_200) (hw0 (.initialized "java/lang/Math") wm_201) (hw0 (.code Lib.Math.min.name Lib.Math.min.code 2 (some .int)) (List.mem_of_getElem? (i := 198) rfl)) (Nat.le_of_ble_eq_true rfl) (Nat.le_of_ble_eq_true rfl) (by decide +kernel) (by decide +kernel) d_A_copyOf_25 ?_
  refine lv_topi (fun x_4 ex_4 => ?_)
  obtain rfl : x_4 = (nI (min 512 q)) := ex_4.trans (x_min (a := 512) (b := q) (by omega) (by omega))
  clear ex_4
  refine va_copyi (ty := .byte) hx hb (hml.trans hl.1.symm) hown (hw0 (.methodLink R_A 150 ⟨"java/lang/System","arraycopy","(Ljava/lang/Object;ILjava/lang/Object;II)V"⟩) wm_229) (hw0 (.native ⟨"java/lang/System","arraycopy","(Ljava/lang/Object;ILjava/lang/Object;II)V"⟩) wm_195) (hw0 (.static ⟨"java/lang/System","arraycopy","(Ljava/lang/Object;ILjava/lang/Object;II)V"⟩) wm_196) (hw0 (.initialized "java/lang/System") wm_197) hK hP hD hS 0 1 0 1 rfl rfl rfl rfl rfl (by decide +kernel) (by decide +kernel) (nI_pos (by omega)) (by rw [sb_cl0, nI_clamp (by omega)]; omega) (by rw [sb_cl0, nI_clamp (by omega)]; omega) (fun i hi => by rw [nI_clamp (by omega)] at hi; rw [sb_cl0, Nat.zero_add]; exact fits_B (tx_inB hp (by omega))) (Nat.le_of_ble_eq_true rfl) (by decide +kernel) d_A_copyOf_28 (fun H locs hP hD hS => ?_)
  replace hP : va_P (dC, dI) vwCl [(hs, .inl (cR, 512, .inl (g))), (q_2, .inl (cA_3, q, .inl (va_cpy (g) (fun _ => 0) (Int32.toNatClampNeg 0) (Int32.toNatClampNeg 0) (Int32.toNatClampNeg (nI (min 512 q))))))] H := hP
  replace hD : va_D A [(hs, .inl (cR, 512, .inl (g))), (q_2, .inl (cA_3, q, .inl (va_cpy (g) (fun _ => 0) (Int32.toNatClampNeg 0) (Int32.toNatClampNeg 0) (Int32.toNatClampNeg (nI (min 512 q))))))] := hD
  have eC : va_cpy (g) (fun _ => 0) (Int32.toNatClampNeg 0) (Int32.toNatClampNeg 0) (Int32.toNatClampNeg (nI (min 512 q))) = va_cpy g (fun _ => 0) 0 0 q := by rw [sb_cl0, nI_clamp (by omega), Nat.min_eq_right (by omega)]
  rw [eC] at hP hD
  refine lv_aload_n hx hb d_A_copyOf_31 rfl (lv_at hl 0 rfl) ?_
  have hP9 := hP.sub (ws' := [(hs, .inl (cR, 512, .inl (g))), (q_2, .inl (cA_3, q, .inl ((va_cpy g (fun _ => 0) 0 0 q))))]) [0, 1] rfl
  have hD9 := hD.sub (ws' := [(hs, .inl (cR, 512, .inl (g))), (q_2, .inl (cA_3, q, .inl ((va_cpy g (fun _ => 0) 0 0 q))))]) [0, 1] (by decide) rfl
  have hK9 := hK.sub (tys' := [(cR, .byte), (cA_3, .byte)]) [0, 1] rfl
  exact W.aret (v := .ref q_2) hx hb hr (Or.inr ⟨_, rfl⟩) (Or.inr ⟨_, rfl⟩) (fun t ht hW => ⟨⟨(), q_2, rfl, trivial, cA_3, (va_cpy g (fun _ => 0) 0 0 q), tx_cpy hp, by rw [ht]; exact hP9, va_K.moved hW.alike hK9, hD9⟩, hS.F ht⟩) hS.2.2 d_A_copyOf_32
set_option maxHeartbeats 4000000 in
set_option maxRecDepth 100000 in
theorem g_pieceOf (l : Launch) (dC : Nat → ClassId) (dI : Nat → Nat → Nat) (sz : Nat) (h0 : Nat) (hrw : Nat) (cR : ClassId) (q : Nat) (g : Nat → Int32) (h1 : Nat) (hy : Nat) (cB : ClassId) (k : Nat) (f : Nat → Int32) (L : List Int32) (h2 : Nat) (hy2 : Nat) (cB2 : ClassId) (k2 : Nat) (fo : Nat → Int32) (L2 : List Int32) (htx : tx L k f) (htx2 : tx L2 k2 fo) (hk : k ≤ 256) (hk2 : k2 ≤ 256) : Met l y_W_pieceOf k_W_pieceOf ({ frames := 4, cells := 1, slots := 258, locals := 101 } : Room) (va_Pc [.ref h0, .ref h1, .ref h2] (pc_E (dC, dI) [(h0, .inr (3, [.ref hrw, .int (nI q)])), (hrw, .inl (cR, 512, .inl (g))), (h1, .inr (1, [.ref hy, .int (nI k)])), (hy, .inl (cB, 256, .inl (f))), (h2, .inr (1, [.ref hy2, .int (nI k2)])), (hy2, .inl (cB2, 256, .inl (fo)))] [(cR, .byte), (cB, .byte), (cB2, .byte)] sz)) (va_Qr (fun (_ : Unit) => True) (fun (_ : Unit) ra t => ∃ (q2 : Nat) (g2 : Nat → Int32) (n : Nat) (cP : ClassId) (f2 : Nat → Int32), (tx (pce L L2) n f2) ∧ at_E (dC, dI) (va_A [(h0, .inr (3, [.ref hrw, .int (nI q)])), (hrw, .inl (cR, 512, .inl (g))), (h1, .inr (1, [.ref hy, .int (nI k)])), (hy, .inl (cB, 256, .inl (f))), (h2, .inr (1, [.ref hy2, .int (nI k2)])), (hy2, .inl (cB2, 256, .inl (fo)))] sz) [(h0, .inr (3, [.ref hrw, .int (nI q2)])), (hrw, .inl (cR, 512, .inl (g2))), (h1, .inr (1, [.ref hy, .int (nI k)])), (hy, .inl (cB, 256, .inl (f))), (h2, .inr (1, [.ref hy2, .int (nI k2)])), (hy2, .inl (cB2, 256, .inl (fo))), (ra, .inl (cP, n, .inl (f2)))] [(cR, .byte), (cB, .byte), (cB2, .byte), (cP, .byte)] t) (va_A [(h0, .inr (3, [.ref hrw, .int (nI q)])), (hrw, .inl (cR, 512, .inl (g))), (h1, .inr (1, [.ref hy, .int (nI k)])), (hy, .inl (cB, 256, .inl (f))), (h2, .inr (1, [.ref hy2, .int (nI k2)])), (hy2, .inl (cB2, 256, .inl (fo)))] sz)) 1 258 (va_A [(h0, .inr (3, [.ref hrw, .int (nI q)])), (hrw, .inl (cR, 512, .inl (g))), (h1, .inr (1, [.ref hy, .int (nI k)])), (hy, .inl (cB, 256, .inl (f))), (h2, .inr (1, [.ref hy2, .int (nI k2)])), (hy2, .inl (cB2, 256, .inl (fo)))] sz) := by
  refine Met.ofW (cc := prog_4_method_2_code) (maxL := 3) (ret := (some (.array .byte))) (by decide) rfl ?_
  intro p e s m args below meth c s₁ B hml hv
  obtain ⟨rfl, hsz, hP, hK, hD0, hN⟩ := hv
  have hx := B.exec
  have hb := B.bytes
  have hr := B.returns
  have hts := atoms_spec (ws := k_W_pieceOf) B.pre
  have hw0 : ∀ w ∈ w0, w.before _ s = true := fun w h => hts w (List.mem_cons_of_mem _ h)
  have hown : s.vm.findClass R_W = some m.cls := findClass_of_methodNamed B.named
  have hlocks := B.notSynchronized
  subst hsz
  have hD := hD0.self (sz := s.heap.size)
  generalize hAe : va_A [(h0, .inr (3, [.ref hrw, .int (nI q)])), (hrw, .inl (cR, 512, .inl (g))), (h1, .inr (1, [.ref hy, .int (nI k)])), (hy, .inl (cB, 256, .inl (f))), (h2, .inr (1, [.ref hy2, .int (nI k2)])), (hy2, .inl (cB2, 256, .inl (fo)))] s.heap.size = A at hD ⊢
  have hA : ∀ q : Nat, s.heap.size ≤ q → A q := fun q h => by rw [← hAe]; exact Or.inr h
  have hS : va_S A s.heap s.heap [] := va_S.rf
  have hP : va_P (dC, dI) vwCl [(h0, .inr (3, [.ref hrw, .int (nI q)])), (hrw, .inl (cR, 512, .inl (g))), (h1, .inr (1, [.ref hy, .int (nI k)])), (hy, .inl (cB, 256, .inl (f))), (h2, .inr (1, [.ref hy2, .int (nI k2)])), (hy2, .inl (cB2, 256, .inl (fo)))] s.heap := hP
  have hl := lv_entry ([.ref h0, .ref h1, .ref h2]) (n := 3) (Nat.le_of_ble_eq_true rfl)
  rw [lg_entry_eq]
  generalize (lg_sl ([.ref h0, .ref h1, .ref h2]) ++ List.replicate (3 - (lg_sl ([.ref h0, .ref h1, .ref h2])).length) Slot.unset).toArray = ls at hl ⊢
  have hl : lv_has ls 3 [(0, .ref h0), (1, .ref h1), (2, .ref h2)] := hl
  have hdk := dgt_le (2 * k)
  refine lv_aload_n hx hb d_W_pieceOf_0 rfl (lv_at hl 0 rfl) ?_
  refine lv_aload_n hx hb d_W_pieceOf_1 rfl (lv_at hl 1 rfl) ?_
  refine lv_aload_n hx hb d_W_pieceOf_2 rfl (lv_at hl 2 rfl) ?_
  have hPc := hP.sub (ws' := [(h0, .inr (3, [.ref hrw, .int (nI q)])), (hrw, .inl (cR, 512, .inl ((g)))), (h1, .inr (1, [.ref hy, .int (nI k)])), (hy, .inl (cB, 256, .inl ((f)))), (h2, .inr (1, [.ref hy2, .int (nI k2)])), (hy2, .inl (cB2, 256, .inl ((fo))))]) [0, 1, 2, 3, 4, 5] rfl
  have hKc := hK.sub (tys' := [(cR, .byte), (cB, .byte), (cB2, .byte)]) [0, 1, 2] rfl
  have hDc := hD.sub (ws' := [(h0, .inr (3, [.ref hrw, .int (nI q)])), (hrw, .inl (cR, 512, .inl ((g)))), (h1, .inr (1, [.ref hy, .int (nI k)])), (hy, .inl (cB, 256, .inl ((f)))), (h2, .inr (1, [.ref hy2, .int (nI k2)])), (hy2, .inl (cB2, 256, .inl ((fo))))]) [0, 1, 2, 3, 4, 5] (by decide) rfl
  have hFc := va_free (wc := [(h0, .inr (3, [.ref hrw, .int (nI q)])), (hrw, .inl (cR, 512, .inl ((g)))), (h1, .inr (1, [.ref hy, .int (nI k)])), (hy, .inl (cB, 256, .inl ((f)))), (h2, .inr (1, [.ref hy2, .int (nI k2)])), (hy2, .inl (cB2, 256, .inl ((fo))))]) hD hS hA [0, 1, 2, 3, 4, 5] rfl
  refine va_callv (va_runV (As := [.ref h1, .ref h2]) (rest := []) ⟨hx, hb, hml, hown, hw0⟩ (g_writeDifferences l dC dI s.heap.size h0 hrw cR q (g) h1 hy cB k (f) _ h2 hy2 cB2 k2 (fo) _ (by first | assumption | decide | omega) (by first | assumption | decide | omega) (by first | assumption | decide | omega) (by first | assumption | decide | omega)) (cwV 2 hw0 (gd_Vm wm_230 wm_231 wm_232 wm_176 wm_233) rfl rfl rfl (by decide +kernel) ⟨by decide +kernel, by decide +kernel⟩) (prV_E hPc hKc hDc hN (va_recv hKc hPc (ci := 3) (q0 := 0) rfl rfl)) rfl rfl hl.1 rfl (lv_room (Nat.le_of_ble_eq_true rfl)) d_W_pieceOf_3 ⟨by decide +kernel, by decide +kernel⟩) hS (fun q _ h => hFc q h) hFc (fun u t H1 locs ht hvm hw hB hz1 hk1 hS => ?_)
  obtain ⟨q2_1, g2_2, ⟨hu_3_0, hu_3_1⟩, hP1, hK1, hD1⟩ := hB
  rw [ht] at hP1
  have hK1 := va_K.moved hvm.symm hK1
  try dsimp only at hw
  obtain ⟨hP, hD⟩ := va_join (wr := []) (w1 := [(h0, .inr (3, [.ref hrw, .int (nI q2_1)])), (hrw, .inl (cR, 512, .inl (g2_2))), (h1, .inr (1, [.ref hy, .int (nI k)])), (hy, .inl (cB, 256, .inl ((f)))), (h2, .inr (1, [.ref hy2, .int (nI k2)])), (hy2, .inl (cB2, 256, .inl ((fo))))]) hP hD [0, 1, 2, 3, 4, 5] [] rfl rfl (by decide) (by decide) hk1 hFc hP1 hD1
  generalize H1 = H at hP hS ⊢
  replace hP : va_P (dC, dI) vwCl [(h0, .inr (3, [.ref hrw, .int (nI q2_1)])), (hrw, .inl (cR, 512, .inl (g2_2))), (h1, .inr (1, [.ref hy, .int (nI k)])), (hy, .inl (cB, 256, .inl ((f)))), (h2, .inr (1, [.ref hy2, .int (nI k2)])), (hy2, .inl (cB2, 256, .inl ((fo))))] H := hP
  replace hD : va_D A [(h0, .inr (3, [.ref hrw, .int (nI q2_1)])), (hrw, .inl (cR, 512, .inl (g2_2))), (h1, .inr (1, [.ref hy, .int (nI k)])), (hy, .inl (cB, 256, .inl ((f)))), (h2, .inr (1, [.ref hy2, .int (nI k2)])), (hy2, .inl (cB2, 256, .inl ((fo))))] := hD
  replace hK : va_K (dC, dI) vwCl [(cR, .byte), (cB, .byte), (cB2, .byte)] s := hK
  refine lv_aload_n hx hb d_W_pieceOf_6 rfl (lv_at hl 0 rfl) ?_
  refine va_get (D := (dC, dI)) (ci := 3) (v := .int (nI q2_1)) (C := R_W) (T := F_W) (N := 2) hx hb hw0 in_W hown hK hP 0 rfl rfl 1 (by decide) (hw0 (.fieldLink R_W 15 "TextKeeper$PieceWriter" "length" "I") wm_147) (fun _ h9 => h9) rfl d_W_pieceOf_7 ?_
  refine lv_iconst (v := 2) hx hb d_W_pieceOf_10 (by decide) ?_
  refine lv_aload_n hx hb d_W_pieceOf_11 rfl (lv_at hl 1 rfl) ?_
  refine va_getN (D := (dC, dI)) (ci := 1) (v := .int (nI k)) (C := R_T) (T := F_T) (N := 2) hx hb hw0 in_T hown hK hP 2 rfl rfl 1 (by decide) (va_Nw.use rfl (hN.1 (.fieldLinkNest R_W 23 "TextKeeper$Text" "length" "I" "TextKeeper") (List.mem_of_getElem? (i := 6) rfl))) (fun _ h9 => h9) rfl d_W_pieceOf_12 ?_
  refine lv_imul hx hb d_W_pieceOf_15 ?_
  refine lv_topi (fun x_4 ex_4 => ?_)
  obtain rfl : x_4 = (nI (2 * k)) := by rw [ex_4]; exact (show nI 2 * nI k = nI (2 * k) from pk_mul 2 k)
  clear ex_4
  have hPc := hP.sub (ws' := []) [] rfl
  have hKc := hK.sub (tys' := []) [] rfl
  refine ps_i (va_runS (As := [.int (nI (2 * k))]) (rest := [.int (nI q2_1)]) ⟨hx, hb, hml, hown, hw0⟩ (g_digitsOf l dC dI (2 * k) (by first | assumption | decide | omega)) (va_cwS 1 hw0 (gd_S 202 203 176 204 rfl rfl rfl rfl) rfl rfl rfl (by decide +kernel) ⟨by decide +kernel, by decide +kernel⟩) (prS_R hPc hKc hN) rfl rfl hl.1 rfl (lv_room (Nat.le_of_ble_eq_true rfl)) d_W_pieceOf_16 ⟨by decide +kernel, by decide +kernel⟩) (fun r_5 hr_5 => ?_)
  obtain rfl : r_5 = (nI (dgt (2 * k))) := hr_5
  refine lv_aload_n hx hb d_W_pieceOf_19 rfl (lv_at hl 1 rfl) ?_
  refine va_getN (D := (dC, dI)) (ci := 1) (v := .int (nI k)) (C := R_T) (T := F_T) (N := 2) hx hb hw0 in_T hown hK hP 2 rfl rfl 1 (by decide) (va_Nw.use rfl (hN.1 (.fieldLinkNest R_W 23 "TextKeeper$Text" "length" "I" "TextKeeper") (List.mem_of_getElem? (i := 6) rfl))) (fun _ h9 => h9) rfl d_W_pieceOf_20 ?_
  refine lv_iadd hx hb d_W_pieceOf_23 ?_
  refine lv_topi (fun x_6 ex_6 => ?_)
  obtain rfl : x_6 = (nI (dgt (2 * k) + k)) := by rw [ex_6]; exact nI_add _ _
  clear ex_6
  refine lv_icmp_le (tgt := 42) hx hb d_W_pieceOf_24 (by decide) (fun c_7 => ?_) (fun c_7 => ?_)
  · have hle9 : q2_1 ≤ dgt (2 * k) + k := (nI_leI (by omega) (by omega)).mp c_7
    refine lv_aload_n hx hb d_W_pieceOf_42 rfl (lv_at hl 0 rfl) ?_
    refine va_get (D := (dC, dI)) (ci := 3) (v := .ref hrw) (C := R_W) (T := F_W) (N := 2) hx hb hw0 in_W hown hK hP 0 rfl rfl 0 (by decide) (hw0 (.fieldLink R_W 9 "TextKeeper$PieceWriter" "row" "[B") wm_146) (fun _ h9 => h9) rfl d_W_pieceOf_43 ?_
    refine lv_aload_n hx hb d_W_pieceOf_46 rfl (lv_at hl 0 rfl) ?_
    refine va_get (D := (dC, dI)) (ci := 3) (v := .int (nI q2_1)) (C := R_W) (T := F_W) (N := 2) hx hb hw0 in_W hown hK hP 0 rfl rfl 1 (by decide) (hw0 (.fieldLink R_W 15 "TextKeeper$PieceWriter" "length" "I") wm_147) (fun _ h9 => h9) rfl d_W_pieceOf_47 ?_
    have hPc := hP.sub (ws' := [(hrw, .inl (cR, 512, .inl ((g2_2))))]) [1] rfl
    have hKc := hK.sub (tys' := [(cR, .byte)]) [0] rfl
    have hDc := hD.sub (ws' := [(hrw, .inl (cR, 512, .inl ((g2_2))))]) [1] (by decide) rfl
    have hFc := va_free (wc := [(hrw, .inl (cR, 512, .inl ((g2_2))))]) hD hS hA [1] rfl
    refine va_callr (va_runS (As := [.ref hrw, .int (nI q2_1)]) (rest := []) ⟨hx, hb, hml, hown, hw0⟩ (g_copyOf l dC dI H.size hrw cR (g2_2) q2_1 _ (by first | assumption | decide | omega) (by first | assumption | decide | omega)) (va_cwS 2 hw0 (gd_S 234 235 236 237 rfl rfl rfl rfl) rfl rfl rfl (by decide +kernel) ⟨by decide +kernel, by decide +kernel⟩) (prS_E hPc hKc hDc hN) rfl rfl hl.1 rfl (lv_room (Nat.le_of_ble_eq_true rfl)) d_W_pieceOf_50 ⟨by decide +kernel, by decide +kernel⟩) hS (fun q _ h => hFc q h) hFc (fun u ra_8 t H1 locs ht hvm hw hB hz1 hk1 hS => ?_)
    obtain ⟨cP_9, f2_10, hu_11, hP1, hK1, hD1⟩ := hB
    rw [ht] at hP1
    have hK1 := va_K.moved hvm.symm hK1
    try dsimp only at hw
    obtain ⟨hP, hD⟩ := va_join (wr := [(h0, .inr (3, [.ref hrw, .int (nI q2_1)])), (h1, .inr (1, [.ref hy, .int (nI k)])), (hy, .inl (cB, 256, .inl ((f)))), (h2, .inr (1, [.ref hy2, .int (nI k2)])), (hy2, .inl (cB2, 256, .inl ((fo))))]) (w1 := [(hrw, .inl (cR, 512, .inl ((g2_2)))), (ra_8, .inl (cP_9, q2_1, .inl (f2_10)))]) hP hD [1] [0, 2, 3, 4, 5] rfl rfl (by decide) (by decide) hk1 hFc hP1 hD1
    have hK := hK.app (hK1.sub (tys' := [(cP_9, .byte)]) [1] rfl)
    generalize H1 = H at hP hS ⊢
    replace hP : va_P (dC, dI) vwCl [(h0, .inr (3, [.ref hrw, .int (nI q2_1)])), (h1, .inr (1, [.ref hy, .int (nI k)])), (hy, .inl (cB, 256, .inl ((f)))), (h2, .inr (1, [.ref hy2, .int (nI k2)])), (hy2, .inl (cB2, 256, .inl ((fo)))), (hrw, .inl (cR, 512, .inl ((g2_2)))), (ra_8, .inl (cP_9, q2_1, .inl (f2_10)))] H := hP
    replace hD : va_D A [(h0, .inr (3, [.ref hrw, .int (nI q2_1)])), (h1, .inr (1, [.ref hy, .int (nI k)])), (hy, .inl (cB, 256, .inl ((f)))), (h2, .inr (1, [.ref hy2, .int (nI k2)])), (hy2, .inl (cB2, 256, .inl ((fo)))), (hrw, .inl (cR, 512, .inl ((g2_2)))), (ra_8, .inl (cP_9, q2_1, .inl (f2_10)))] := hD
    replace hK : va_K (dC, dI) vwCl [(cR, .byte), (cB, .byte), (cB2, .byte), (cP_9, .byte)] s := hK
    refine W.widen (k := 1) (n := 258) (by decide +kernel) (by decide +kernel) ?_
    have hP9 := hP.sub (ws' := [(h0, .inr (3, [.ref hrw, .int (nI q2_1)])), (hrw, .inl (cR, 512, .inl ((g2_2)))), (h1, .inr (1, [.ref hy, .int (nI k)])), (hy, .inl (cB, 256, .inl (f))), (h2, .inr (1, [.ref hy2, .int (nI k2)])), (hy2, .inl (cB2, 256, .inl (fo))), (ra_8, .inl (cP_9, q2_1, .inl (f2_10)))]) [0, 5, 1, 2, 3, 4, 6] rfl
    have hD9 := hD.sub (ws' := [(h0, .inr (3, [.ref hrw, .int (nI q2_1)])), (hrw, .inl (cR, 512, .inl ((g2_2)))), (h1, .inr (1, [.ref hy, .int (nI k)])), (hy, .inl (cB, 256, .inl (f))), (h2, .inr (1, [.ref hy2, .int (nI k2)])), (hy2, .inl (cB2, 256, .inl (fo))), (ra_8, .inl (cP_9, q2_1, .inl (f2_10)))]) [0, 5, 1, 2, 3, 4, 6] (by decide) rfl
    have hK9 := hK.sub (tys' := [(cR, .byte), (cB, .byte), (cB2, .byte), (cP_9, .byte)]) [0, 1, 2, 3] rfl
    exact W.aret (v := .ref ra_8) hx hb hr (Or.inr ⟨_, rfl⟩) (Or.inr ⟨_, rfl⟩) (fun t ht hW => ⟨⟨(), ra_8, rfl, trivial, q2_1, (g2_2), q2_1, cP_9, f2_10, (x_pce1 htx.1 (by rw [hu_3_1.1]; exact hle9) hu_11), by rw [ht]; exact hP9, va_K.moved hW.alike hK9, hD9⟩, hS.F ht⟩) hS.2.2 d_W_pieceOf_53
  · have hgt9 : ¬ q2_1 ≤ dgt (2 * k) + k := fun z => c_7 ((nI_leI (by omega) (by omega)).mpr z); have hnil := tx_nil g2_2; have hdk0 := dgt_le (2 * (k - 0)); have hil := insE_len0 (L := L) (k := k) htx.1
    refine lv_aload_n hx hb d_W_pieceOf_27 rfl (lv_at hl 0 rfl) ?_
    refine lv_iconst (v := 0) hx hb d_W_pieceOf_28 (by decide) ?_
    refine va_put (D := (dC, dI)) (ci := 3) (v := .int 0) (ty := .int) (C := R_W) (T := F_W) (N := 2) hx hb hw0 in_W ft_W tk_W nk_W hown hK hP hD hS 0 rfl rfl 1 (by decide) (hw0 (.fieldLink R_W 15 "TextKeeper$PieceWriter" "length" "I") wm_147) (fun _ h9 => h9) rfl (by decide +kernel) rfl rfl (Nat.le_of_ble_eq_true rfl) d_W_pieceOf_29 (fun H locs hP hD hS => ?_)
    replace hP : va_P (dC, dI) vwCl [(h0, .inr (3, [.ref hrw, .int 0])), (hrw, .inl (cR, 512, .inl (g2_2))), (h1, .inr (1, [.ref hy, .int (nI k)])), (hy, .inl (cB, 256, .inl ((f)))), (h2, .inr (1, [.ref hy2, .int (nI k2)])), (hy2, .inl (cB2, 256, .inl ((fo))))] H := hP
    replace hD : va_D A [(h0, .inr (3, [.ref hrw, .int 0])), (hrw, .inl (cR, 512, .inl (g2_2))), (h1, .inr (1, [.ref hy, .int (nI k)])), (hy, .inl (cB, 256, .inl ((f)))), (h2, .inr (1, [.ref hy2, .int (nI k2)])), (hy2, .inl (cB2, 256, .inl ((fo))))] := hD
    refine lv_aload_n hx hb d_W_pieceOf_32 rfl (lv_at hl 0 rfl) ?_
    refine lv_aload_n hx hb d_W_pieceOf_33 rfl (lv_at hl 1 rfl) ?_
    refine lv_iconst (v := 0) hx hb d_W_pieceOf_34 (by decide) ?_
    refine lv_aload_n hx hb d_W_pieceOf_35 rfl (lv_at hl 1 rfl) ?_
    refine va_getN (D := (dC, dI)) (ci := 1) (v := .int (nI k)) (C := R_T) (T := F_T) (N := 2) hx hb hw0 in_T hown hK hP 2 rfl rfl 1 (by decide) (va_Nw.use rfl (hN.1 (.fieldLinkNest R_W 23 "TextKeeper$Text" "length" "I" "TextKeeper") (List.mem_of_getElem? (i := 6) rfl))) (fun _ h9 => h9) rfl d_W_pieceOf_36 ?_
    have hPc := hP.sub (ws' := [(h0, .inr (3, [.ref hrw, .int (nI 0)])), (hrw, .inl (cR, 512, .inl ((g2_2)))), (h1, .inr (1, [.ref hy, .int (nI k)])), (hy, .inl (cB, 256, .inl (((f)))))]) [0, 1, 2, 3] rfl
    have hKc := hK.sub (tys' := [(cR, .byte), (cB, .byte)]) [0, 1] rfl
    have hDc := hD.sub (ws' := [(h0, .inr (3, [.ref hrw, .int (nI 0)])), (hrw, .inl (cR, 512, .inl ((g2_2)))), (h1, .inr (1, [.ref hy, .int (nI k)])), (hy, .inl (cB, 256, .inl (((f)))))]) [0, 1, 2, 3] (by decide) rfl
    have hFc := va_free (wc := [(h0, .inr (3, [.ref hrw, .int (nI 0)])), (hrw, .inl (cR, 512, .inl ((g2_2)))), (h1, .inr (1, [.ref hy, .int (nI k)])), (hy, .inl (cB, 256, .inl (((f)))))]) hD hS hA [0, 1, 2, 3] rfl
    refine va_callv (va_runV (As := [.ref h1, .int 0, .int (nI k)]) (rest := []) ⟨hx, hb, hml, hown, hw0⟩ (g_writeInsert l dC dI H.size h0 hrw cR 0 (g2_2) _ h1 hy cB k ((f)) _ 0 k (by first | assumption | decide | omega) (by first | assumption | decide | omega) (by first | assumption | decide | omega) (by first | assumption | decide | omega) (by first | assumption | decide | omega) (by first | assumption | decide | omega)) (cwV 3 hw0 (gd_Vm wm_224 wm_225 wm_226 wm_176 wm_227) rfl rfl rfl (by decide +kernel) ⟨by decide +kernel, by decide +kernel⟩) (prV_E hPc hKc hDc hN (va_recv hKc hPc (ci := 3) (q0 := 0) rfl rfl)) rfl rfl hl.1 rfl (lv_room (Nat.le_of_ble_eq_true rfl)) d_W_pieceOf_39 ⟨by decide +kernel, by decide +kernel⟩) hS (fun q _ h => hFc q h) hFc (fun u t H1 locs ht hvm hw hB hz1 hk1 hS => ?_)
    obtain ⟨q2_12, g2_13, ⟨hu_14_0, hu_14_1⟩, hP1, hK1, hD1⟩ := hB
    rw [ht] at hP1
    have hK1 := va_K.moved hvm.symm hK1
    try dsimp only at hw
    obtain ⟨hP, hD⟩ := va_join (wr := [(h2, .inr (1, [.ref hy2, .int (nI k2)])), (hy2, .inl (cB2, 256, .inl ((fo))))]) (w1 := [(h0, .inr (3, [.ref hrw, .int (nI q2_12)])), (hrw, .inl (cR, 512, .inl (g2_13))), (h1, .inr (1, [.ref hy, .int (nI k)])), (hy, .inl (cB, 256, .inl (((f)))))]) hP hD [0, 1, 2, 3] [4, 5] rfl rfl (by decide) (by decide) hk1 hFc hP1 hD1
    generalize H1 = H at hP hS ⊢
    replace hP : va_P (dC, dI) vwCl [(h2, .inr (1, [.ref hy2, .int (nI k2)])), (hy2, .inl (cB2, 256, .inl ((fo)))), (h0, .inr (3, [.ref hrw, .int (nI q2_12)])), (hrw, .inl (cR, 512, .inl (g2_13))), (h1, .inr (1, [.ref hy, .int (nI k)])), (hy, .inl (cB, 256, .inl (((f)))))] H := hP
    replace hD : va_D A [(h2, .inr (1, [.ref hy2, .int (nI k2)])), (hy2, .inl (cB2, 256, .inl ((fo)))), (h0, .inr (3, [.ref hrw, .int (nI q2_12)])), (hrw, .inl (cR, 512, .inl (g2_13))), (h1, .inr (1, [.ref hy, .int (nI k)])), (hy, .inl (cB, 256, .inl (((f)))))] := hD
    replace hK : va_K (dC, dI) vwCl [(cR, .byte), (cB, .byte), (cB2, .byte)] s := hK
    refine lv_aload_n hx hb d_W_pieceOf_42 rfl (lv_at hl 0 rfl) ?_
    refine va_get (D := (dC, dI)) (ci := 3) (v := .ref hrw) (C := R_W) (T := F_W) (N := 2) hx hb hw0 in_W hown hK hP 2 rfl rfl 0 (by decide) (hw0 (.fieldLink R_W 9 "TextKeeper$PieceWriter" "row" "[B") wm_146) (fun _ h9 => h9) rfl d_W_pieceOf_43 ?_
    refine lv_aload_n hx hb d_W_pieceOf_46 rfl (lv_at hl 0 rfl) ?_
    refine va_get (D := (dC, dI)) (ci := 3) (v := .int (nI q2_12)) (C := R_W) (T := F_W) (N := 2) hx hb hw0 in_W hown hK hP 2 rfl rfl 1 (by decide) (hw0 (.fieldLink R_W 15 "TextKeeper$PieceWriter" "length" "I") wm_147) (fun _ h9 => h9) rfl d_W_pieceOf_47 ?_
    have hPc := hP.sub (ws' := [(hrw, .inl (cR, 512, .inl ((g2_13))))]) [3] rfl
    have hKc := hK.sub (tys' := [(cR, .byte)]) [0] rfl
    have hDc := hD.sub (ws' := [(hrw, .inl (cR, 512, .inl ((g2_13))))]) [3] (by decide) rfl
    have hFc := va_free (wc := [(hrw, .inl (cR, 512, .inl ((g2_13))))]) hD hS hA [3] rfl
    refine va_callr (va_runS (As := [.ref hrw, .int (nI q2_12)]) (rest := []) ⟨hx, hb, hml, hown, hw0⟩ (g_copyOf l dC dI H.size hrw cR (g2_13) q2_12 _ (by first | assumption | decide | omega) (by first | assumption | decide | omega)) (va_cwS 2 hw0 (gd_S 234 235 236 237 rfl rfl rfl rfl) rfl rfl rfl (by decide +kernel) ⟨by decide +kernel, by decide +kernel⟩) (prS_E hPc hKc hDc hN) rfl rfl hl.1 rfl (lv_room (Nat.le_of_ble_eq_true rfl)) d_W_pieceOf_50 ⟨by decide +kernel, by decide +kernel⟩) hS (fun q _ h => hFc q h) hFc (fun u ra_15 t H1 locs ht hvm hw hB hz1 hk1 hS => ?_)
    obtain ⟨cP_16, f2_17, hu_18, hP1, hK1, hD1⟩ := hB
    rw [ht] at hP1
    have hK1 := va_K.moved hvm.symm hK1
    try dsimp only at hw
    obtain ⟨hP, hD⟩ := va_join (wr := [(h2, .inr (1, [.ref hy2, .int (nI k2)])), (hy2, .inl (cB2, 256, .inl ((fo)))), (h0, .inr (3, [.ref hrw, .int (nI q2_12)])), (h1, .inr (1, [.ref hy, .int (nI k)])), (hy, .inl (cB, 256, .inl (((f)))))]) (w1 := [(hrw, .inl (cR, 512, .inl ((g2_13)))), (ra_15, .inl (cP_16, q2_12, .inl (f2_17)))]) hP hD [3] [0, 1, 2, 4, 5] rfl rfl (by decide) (by decide) hk1 hFc hP1 hD1
    have hK := hK.app (hK1.sub (tys' := [(cP_16, .byte)]) [1] rfl)
    generalize H1 = H at hP hS ⊢
    replace hP : va_P (dC, dI) vwCl [(h2, .inr (1, [.ref hy2, .int (nI k2)])), (hy2, .inl (cB2, 256, .inl ((fo)))), (h0, .inr (3, [.ref hrw, .int (nI q2_12)])), (h1, .inr (1, [.ref hy, .int (nI k)])), (hy, .inl (cB, 256, .inl (((f))))), (hrw, .inl (cR, 512, .inl ((g2_13)))), (ra_15, .inl (cP_16, q2_12, .inl (f2_17)))] H := hP
    replace hD : va_D A [(h2, .inr (1, [.ref hy2, .int (nI k2)])), (hy2, .inl (cB2, 256, .inl ((fo)))), (h0, .inr (3, [.ref hrw, .int (nI q2_12)])), (h1, .inr (1, [.ref hy, .int (nI k)])), (hy, .inl (cB, 256, .inl (((f))))), (hrw, .inl (cR, 512, .inl ((g2_13)))), (ra_15, .inl (cP_16, q2_12, .inl (f2_17)))] := hD
    replace hK : va_K (dC, dI) vwCl [(cR, .byte), (cB, .byte), (cB2, .byte), (cP_16, .byte)] s := hK
    refine W.widen (k := 1) (n := 258) (by decide +kernel) (by decide +kernel) ?_
    have hP9 := hP.sub (ws' := [(h0, .inr (3, [.ref hrw, .int (nI q2_12)])), (hrw, .inl (cR, 512, .inl ((g2_13)))), (h1, .inr (1, [.ref hy, .int (nI k)])), (hy, .inl (cB, 256, .inl (f))), (h2, .inr (1, [.ref hy2, .int (nI k2)])), (hy2, .inl (cB2, 256, .inl (fo))), (ra_15, .inl (cP_16, q2_12, .inl (f2_17)))]) [2, 5, 3, 4, 0, 1, 6] rfl
    have hD9 := hD.sub (ws' := [(h0, .inr (3, [.ref hrw, .int (nI q2_12)])), (hrw, .inl (cR, 512, .inl ((g2_13)))), (h1, .inr (1, [.ref hy, .int (nI k)])), (hy, .inl (cB, 256, .inl (f))), (h2, .inr (1, [.ref hy2, .int (nI k2)])), (hy2, .inl (cB2, 256, .inl (fo))), (ra_15, .inl (cP_16, q2_12, .inl (f2_17)))]) [2, 5, 3, 4, 0, 1, 6] (by decide) rfl
    have hK9 := hK.sub (tys' := [(cR, .byte), (cB, .byte), (cB2, .byte), (cP_16, .byte)]) [0, 1, 2, 3] rfl
    exact W.aret (v := .ref ra_15) hx hb hr (Or.inr ⟨_, rfl⟩) (Or.inr ⟨_, rfl⟩) (fun t ht hW => ⟨⟨(), ra_15, rfl, trivial, q2_12, (g2_13), q2_12, cP_16, f2_17, (x_pce2 htx.1 (by rw [hu_3_1.1]; exact hgt9) hu_18), by rw [ht]; exact hP9, va_K.moved hW.alike hK9, hD9⟩, hS.F ht⟩) hS.2.2 d_W_pieceOf_53
end
