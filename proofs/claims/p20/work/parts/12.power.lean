set_option maxHeartbeats 4000000 in
set_option maxRecDepth 100000 in
theorem g_goAfter (l : Launch) (dC : Nat → ClassId) (dI : Nat → Nat → Nat) (sz : Nat) (h0 : Nat) (i_down : Int32) (i_going : Int32) (i_writesLeft : Int32) (a1 : Int32)  : Met l y_P_goAfter k_P_goAfter ({ frames := 0, cells := 0, slots := 0, locals := 0 } : Room) (va_Pc [.ref h0, .int a1] (pc_E (dC, dI) [(h0, .inr (4, [.int i_down, .int i_going, .int i_writesLeft]))] [] sz)) (va_Qv (fun (_ : Unit) => True) (fun (_ : Unit) t => at_E (dC, dI) (va_A [(h0, .inr (4, [.int i_down, .int i_going, .int i_writesLeft]))] sz) [(h0, .inr (4, [.int i_down, .int 1, .int a1]))] [] t) (va_A [(h0, .inr (4, [.int i_down, .int i_going, .int i_writesLeft]))] sz)) 0 0 (va_A [(h0, .inr (4, [.int i_down, .int i_going, .int i_writesLeft]))] sz) := by
  refine Met.ofW (cc := prog_5_method_2_code) (maxL := 2) (ret := none) (by decide) rfl ?_
  intro p e s m args below meth c s₁ B hml hv
  obtain ⟨rfl, hsz, hP, hK, hD0, hN⟩ := hv
  have hx := B.exec
  have hb := B.bytes
  have hr := B.returns
  have hts := atoms_spec (ws := k_P_goAfter) B.pre
  have hw0 : ∀ w ∈ w0, w.before _ s = true := fun w h => hts w (List.mem_cons_of_mem _ h)
  have hown : s.vm.findClass R_P = some m.cls := findClass_of_methodNamed B.named
  have hlocks := B.notSynchronized
  subst hsz
  have hD := hD0.self (sz := s.heap.size)
  generalize hAe : va_A [(h0, .inr (4, [.int i_down, .int i_going, .int i_writesLeft]))] s.heap.size = A at hD ⊢
  have hA : ∀ q : Nat, s.heap.size ≤ q → A q := fun q h => by rw [← hAe]; exact Or.inr h
  have hS : va_S A s.heap s.heap [] := va_S.rf
  have hP : va_P (dC, dI) vwCl [(h0, .inr (4, [.int i_down, .int i_going, .int i_writesLeft]))] s.heap := hP
  have hl := lv_entry ([.ref h0, .int a1]) (n := 2) (Nat.le_of_ble_eq_true rfl)
  rw [lg_entry_eq]
  generalize (lg_sl ([.ref h0, .int a1]) ++ List.replicate (2 - (lg_sl ([.ref h0, .int a1])).length) Slot.unset).toArray = ls at hl ⊢
  have hl : lv_has ls 2 [(0, .ref h0), (1, .int a1)] := hl
  refine lv_aload_n hx hb d_P_goAfter_0 rfl (lv_at hl 0 rfl) ?_
  refine lv_iconst (v := 1) hx hb d_P_goAfter_1 (by decide) ?_
  refine va_put (D := (dC, dI)) (ci := 4) (v := .int 1) (ty := .boolean) (C := R_P) (T := F_P) (N := 3) hx hb hw0 in_P ft_P tk_P nk_P hown hK hP hD hS 0 rfl rfl 1 (by decide) (hw0 (.fieldLink R_P 13 "TextKeeper$Power" "going" "Z") (List.mem_of_getElem? (i := 57) rfl)) (fun _ h9 => h9) rfl (by decide +kernel) rfl rfl (Nat.le_of_ble_eq_true rfl) d_P_goAfter_2 (fun H locs hP hD hS => ?_)
  replace hP : va_P (dC, dI) vwCl [(h0, .inr (4, [.int i_down, .int 1, .int i_writesLeft]))] H := hP
  replace hD : va_D A [(h0, .inr (4, [.int i_down, .int 1, .int i_writesLeft]))] := hD
  refine lv_aload_n hx hb d_P_goAfter_5 rfl (lv_at hl 0 rfl) ?_
  refine lv_iload_n hx hb d_P_goAfter_6 rfl (lv_at hl 1 rfl) ?_
  refine va_put (D := (dC, dI)) (ci := 4) (v := .int a1) (ty := .int) (C := R_P) (T := F_P) (N := 3) hx hb hw0 in_P ft_P tk_P nk_P hown hK hP hD hS 0 rfl rfl 2 (by decide) (hw0 (.fieldLink R_P 16 "TextKeeper$Power" "writesLeft" "I") (List.mem_of_getElem? (i := 58) rfl)) (fun _ h9 => h9) rfl (by decide +kernel) rfl rfl (Nat.le_of_ble_eq_true rfl) d_P_goAfter_7 (fun H locs hP hD hS => ?_)
  replace hP : va_P (dC, dI) vwCl [(h0, .inr (4, [.int i_down, .int 1, .int a1]))] H := hP
  replace hD : va_D A [(h0, .inr (4, [.int i_down, .int 1, .int a1]))] := hD
  have hP9 := hP.sub (ws' := [(h0, .inr (4, [.int i_down, .int 1, .int a1]))]) [0] rfl
  have hD9 := hD.sub (ws' := [(h0, .inr (4, [.int i_down, .int 1, .int a1]))]) [0] (by decide) rfl
  have hK9 := hK.sub (tys' := []) [] rfl
  exact W.vret hx hb hr (fun t ht hW => ⟨⟨(), rfl, trivial, by rw [ht]; exact hP9, va_K.moved hW.alike hK9, hD9⟩, hS.F ht⟩) hS.2.2 d_P_goAfter_10
set_option maxHeartbeats 4000000 in
set_option maxRecDepth 100000 in
theorem g_comeBack (l : Launch) (dC : Nat → ClassId) (dI : Nat → Nat → Nat) (sz : Nat) (h0 : Nat) (i_down : Int32) (i_going : Int32) (i_writesLeft : Int32)  : Met l y_P_comeBack k_P_comeBack ({ frames := 0, cells := 0, slots := 0, locals := 0 } : Room) (va_Pc [.ref h0] (pc_E (dC, dI) [(h0, .inr (4, [.int i_down, .int i_going, .int i_writesLeft]))] [] sz)) (va_Qv (fun (_ : Unit) => True) (fun (_ : Unit) t => at_E (dC, dI) (va_A [(h0, .inr (4, [.int i_down, .int i_going, .int i_writesLeft]))] sz) [(h0, .inr (4, [.int 0, .int 0, .int i_writesLeft]))] [] t) (va_A [(h0, .inr (4, [.int i_down, .int i_going, .int i_writesLeft]))] sz)) 0 0 (va_A [(h0, .inr (4, [.int i_down, .int i_going, .int i_writesLeft]))] sz) := by
  refine Met.ofW (cc := prog_5_method_3_code) (maxL := 1) (ret := none) (by decide) rfl ?_
  intro p e s m args below meth c s₁ B hml hv
  obtain ⟨rfl, hsz, hP, hK, hD0, hN⟩ := hv
  have hx := B.exec
  have hb := B.bytes
  have hr := B.returns
  have hts := atoms_spec (ws := k_P_comeBack) B.pre
  have hw0 : ∀ w ∈ w0, w.before _ s = true := fun w h => hts w (List.mem_cons_of_mem _ h)
  have hown : s.vm.findClass R_P = some m.cls := findClass_of_methodNamed B.named
  have hlocks := B.notSynchronized
  subst hsz
  have hD := hD0.self (sz := s.heap.size)
  generalize hAe : va_A [(h0, .inr (4, [.int i_down, .int i_going, .int i_writesLeft]))] s.heap.size = A at hD ⊢
  have hA : ∀ q : Nat, s.heap.size ≤ q → A q := fun q h => by rw [← hAe]; exact Or.inr h
  have hS : va_S A s.heap s.heap [] := va_S.rf
  have hP : va_P (dC, dI) vwCl [(h0, .inr (4, [.int i_down, .int i_going, .int i_writesLeft]))] s.heap := hP
  have hl := lv_entry ([.ref h0]) (n := 1) (Nat.le_of_ble_eq_true rfl)
  rw [lg_entry_eq]
  generalize (lg_sl ([.ref h0]) ++ List.replicate (1 - (lg_sl ([.ref h0])).length) Slot.unset).toArray = ls at hl ⊢
  have hl : lv_has ls 1 [(0, .ref h0)] := hl
  refine lv_aload_n hx hb d_P_comeBack_0 rfl (lv_at hl 0 rfl) ?_
  refine lv_iconst (v := 0) hx hb d_P_comeBack_1 (by decide) ?_
  refine va_put (D := (dC, dI)) (ci := 4) (v := .int 0) (ty := .boolean) (C := R_P) (T := F_P) (N := 3) hx hb hw0 in_P ft_P tk_P nk_P hown hK hP hD hS 0 rfl rfl 0 (by decide) (hw0 (.fieldLink R_P 7 "TextKeeper$Power" "down" "Z") (List.mem_of_getElem? (i := 56) rfl)) (fun _ h9 => h9) rfl (by decide +kernel) rfl rfl (Nat.le_of_ble_eq_true rfl) d_P_comeBack_2 (fun H locs hP hD hS => ?_)
  replace hP : va_P (dC, dI) vwCl [(h0, .inr (4, [.int 0, .int i_going, .int i_writesLeft]))] H := hP
  replace hD : va_D A [(h0, .inr (4, [.int 0, .int i_going, .int i_writesLeft]))] := hD
  refine lv_aload_n hx hb d_P_comeBack_5 rfl (lv_at hl 0 rfl) ?_
  refine lv_iconst (v := 0) hx hb d_P_comeBack_6 (by decide) ?_
  refine va_put (D := (dC, dI)) (ci := 4) (v := .int 0) (ty := .boolean) (C := R_P) (T := F_P) (N := 3) hx hb hw0 in_P ft_P tk_P nk_P hown hK hP hD hS 0 rfl rfl 1 (by decide) (hw0 (.fieldLink R_P 13 "TextKeeper$Power" "going" "Z") (List.mem_of_getElem? (i := 57) rfl)) (fun _ h9 => h9) rfl (by decide +kernel) rfl rfl (Nat.le_of_ble_eq_true rfl) d_P_comeBack_7 (fun H locs hP hD hS => ?_)
  replace hP : va_P (dC, dI) vwCl [(h0, .inr (4, [.int 0, .int 0, .int i_writesLeft]))] H := hP
  replace hD : va_D A [(h0, .inr (4, [.int 0, .int 0, .int i_writesLeft]))] := hD
  have hP9 := hP.sub (ws' := [(h0, .inr (4, [.int 0, .int 0, .int i_writesLeft]))]) [0] rfl
  have hD9 := hD.sub (ws' := [(h0, .inr (4, [.int 0, .int 0, .int i_writesLeft]))]) [0] (by decide) rfl
  have hK9 := hK.sub (tys' := []) [] rfl
  exact W.vret hx hb hr (fun t ht hW => ⟨⟨(), rfl, trivial, by rw [ht]; exact hP9, va_K.moved hW.alike hK9, hD9⟩, hS.F ht⟩) hS.2.2 d_P_comeBack_10
set_option maxHeartbeats 4000000 in
set_option maxRecDepth 100000 in
theorem g_lasts_T (l : Launch) (dC : Nat → ClassId) (dI : Nat → Nat → Nat) (sz : Nat) (h0 : Nat) (go : Option Nat) (wl : Int32) (n : Nat) (hg : ∀ w, go = some w → wl = nI w ∧ w < 2 ^ 31) (hn : n < 2 ^ 30) (hle : ∀ w, go = some w → n ≤ w) : Met l y_P_lastsFor k_P_lastsFor ({ frames := 0, cells := 0, slots := 0, locals := 0 } : Room) (va_Pc [.ref h0, .int (nI n)] (pc_E (dC, dI) [(h0, .inr (4, [.int 0, .int (bI go.isSome), .int wl]))] [] sz)) (va_Qi (fun (r : Int32) (_ : Unit) => r = 1) (fun (_ : Unit) t => ∃ (wl2 : Int32), (∀ w, go = some w → wl2 = nI (w - n)) ∧ at_E (dC, dI) (va_A [(h0, .inr (4, [.int 0, .int (bI go.isSome), .int wl]))] sz) [(h0, .inr (4, [.int 0, .int (bI go.isSome), .int wl2]))] [] t) (va_A [(h0, .inr (4, [.int 0, .int (bI go.isSome), .int wl]))] sz)) 0 0 (va_A [(h0, .inr (4, [.int 0, .int (bI go.isSome), .int wl]))] sz) := by
  refine Met.ofW (cc := prog_5_method_4_code) (maxL := 2) (ret := (some .boolean)) (by decide) rfl ?_
  intro p e s m args below meth c s₁ B hml hv
  obtain ⟨rfl, hsz, hP, hK, hD0, hN⟩ := hv
  have hx := B.exec
  have hb := B.bytes
  have hr := B.returns
  have hts := atoms_spec (ws := k_P_lastsFor) B.pre
  have hw0 : ∀ w ∈ w0, w.before _ s = true := fun w h => hts w (List.mem_cons_of_mem _ h)
  have hown : s.vm.findClass R_P = some m.cls := findClass_of_methodNamed B.named
  have hlocks := B.notSynchronized
  subst hsz
  have hD := hD0.self (sz := s.heap.size)
  generalize hAe : va_A [(h0, .inr (4, [.int 0, .int (bI go.isSome), .int wl]))] s.heap.size = A at hD ⊢
  have hA : ∀ q : Nat, s.heap.size ≤ q → A q := fun q h => by rw [← hAe]; exact Or.inr h
  have hS : va_S A s.heap s.heap [] := va_S.rf
  have hP : va_P (dC, dI) vwCl [(h0, .inr (4, [.int 0, .int (bI go.isSome), .int wl]))] s.heap := hP
  have hl := lv_entry ([.ref h0, .int (nI n)]) (n := 2) (Nat.le_of_ble_eq_true rfl)
  rw [lg_entry_eq]
  generalize (lg_sl ([.ref h0, .int (nI n)]) ++ List.replicate (2 - (lg_sl ([.ref h0, .int (nI n)])).length) Slot.unset).toArray = ls at hl ⊢
  have hl : lv_has ls 2 [(0, .ref h0), (1, .int (nI n))] := hl
  refine lv_aload_n hx hb d_P_lastsFor_0 rfl (lv_at hl 0 rfl) ?_
  refine va_get (D := (dC, dI)) (ci := 4) (v := .int (bI go.isSome)) (C := R_P) (T := F_P) (N := 3) hx hb hw0 in_P hown hK hP 0 rfl rfl 1 (by decide) (hw0 (.fieldLink R_P 13 "TextKeeper$Power" "going" "Z") (List.mem_of_getElem? (i := 57) rfl)) (fun _ h9 => h9) rfl d_P_lastsFor_1 ?_
  refine lv_if_ne (tgt := 9) hx hb d_P_lastsFor_4 (by decide) (fun c_1 => ?_) (fun c_1 => ?_)
  · obtain ⟨w9, hw9⟩ := x_isS c_1
    refine lv_aload_n hx hb d_P_lastsFor_9 rfl (lv_at hl 0 rfl) ?_
    refine va_get (D := (dC, dI)) (ci := 4) (v := .int wl) (C := R_P) (T := F_P) (N := 3) hx hb hw0 in_P hown hK hP 0 rfl rfl 2 (by decide) (hw0 (.fieldLink R_P 16 "TextKeeper$Power" "writesLeft" "I") (List.mem_of_getElem? (i := 58) rfl)) (fun _ h9 => h9) rfl d_P_lastsFor_10 ?_
    refine lv_iload_n hx hb d_P_lastsFor_13 rfl (lv_at hl 1 rfl) ?_
    refine lv_icmp_ge (tgt := 24) hx hb d_P_lastsFor_14 (by decide) (fun c_2 => ?_) (fun c_2 => absurd (by rw [(hg w9 hw9).1]; exact nI_le (hle w9 hw9) (hg w9 hw9).2) c_2)
    refine lv_aload_n hx hb d_P_lastsFor_24 rfl (lv_at hl 0 rfl) ?_
    refine lv_dup hx hb d_P_lastsFor_25 rfl ?_
    refine va_get (D := (dC, dI)) (ci := 4) (v := .int wl) (C := R_P) (T := F_P) (N := 3) hx hb hw0 in_P hown hK hP 0 rfl rfl 2 (by decide) (hw0 (.fieldLink R_P 16 "TextKeeper$Power" "writesLeft" "I") (List.mem_of_getElem? (i := 58) rfl)) (fun _ h9 => h9) rfl d_P_lastsFor_26 ?_
    refine lv_iload_n hx hb d_P_lastsFor_29 rfl (lv_at hl 1 rfl) ?_
    refine lv_isub hx hb d_P_lastsFor_30 ?_
    refine lv_topi (fun x_3 ex_3 => ?_)
    refine va_put (D := (dC, dI)) (ci := 4) (v := .int x_3) (ty := .int) (C := R_P) (T := F_P) (N := 3) hx hb hw0 in_P ft_P tk_P nk_P hown hK hP hD hS 0 rfl rfl 2 (by decide) (hw0 (.fieldLink R_P 16 "TextKeeper$Power" "writesLeft" "I") (List.mem_of_getElem? (i := 58) rfl)) (fun _ h9 => h9) rfl (by decide +kernel) rfl rfl (Nat.le_of_ble_eq_true rfl) d_P_lastsFor_31 (fun H locs hP hD hS => ?_)
    replace hP : va_P (dC, dI) vwCl [(h0, .inr (4, [.int 0, .int (bI go.isSome), .int x_3]))] H := hP
    replace hD : va_D A [(h0, .inr (4, [.int 0, .int (bI go.isSome), .int x_3]))] := hD
    refine lv_iconst (v := 1) hx hb d_P_lastsFor_34 (by decide) ?_
    have hP9 := hP.sub (ws' := [(h0, .inr (4, [.int 0, .int (bI go.isSome), .int x_3]))]) [0] rfl
    have hD9 := hD.sub (ws' := [(h0, .inr (4, [.int 0, .int (bI go.isSome), .int x_3]))]) [0] (by decide) rfl
    have hK9 := hK.sub (tys' := []) [] rfl
    exact W.zret (v := 1) (ty := .boolean) hx hb hr rfl (fun t ht hW => ⟨⟨1, (), rfl, rfl, x_3, (fun w e9 => by rw [ex_3, (hg w e9).1]; exact pk_sub (hle w e9)), by rw [ht]; exact hP9, va_K.moved hW.alike hK9, hD9⟩, hS.F ht⟩) hS.2.2 d_P_lastsFor_35
  · refine lv_iconst (v := 1) hx hb d_P_lastsFor_7 (by decide) ?_
    have hP9 := hP.sub (ws' := [(h0, .inr (4, [.int 0, .int (bI go.isSome), .int wl]))]) [0] rfl
    have hD9 := hD.sub (ws' := [(h0, .inr (4, [.int 0, .int (bI go.isSome), .int wl]))]) [0] (by decide) rfl
    have hK9 := hK.sub (tys' := []) [] rfl
    exact W.zret (v := 1) (ty := .boolean) hx hb hr rfl (fun t ht hW => ⟨⟨1, (), rfl, rfl, wl, (fun w e9 => by rw [x_isN9 c_1] at e9; cases e9), by rw [ht]; exact hP9, va_K.moved hW.alike hK9, hD9⟩, hS.F ht⟩) hS.2.2 d_P_lastsFor_8
set_option maxHeartbeats 4000000 in
set_option maxRecDepth 100000 in
theorem g_lasts_F (l : Launch) (dC : Nat → ClassId) (dI : Nat → Nat → Nat) (sz : Nat) (h0 : Nat) (go : Option Nat) (wl : Int32) (n : Nat) (w9 : Nat) (hg : ∀ w, go = some w → wl = nI w ∧ w < 2 ^ 31) (hn : n < 2 ^ 30) (hw9 : go = some w9) (hlt : w9 < n) : Met l y_P_lastsFor k_P_lastsFor ({ frames := 0, cells := 0, slots := 0, locals := 0 } : Room) (va_Pc [.ref h0, .int (nI n)] (pc_E (dC, dI) [(h0, .inr (4, [.int 0, .int (bI go.isSome), .int wl]))] [] sz)) (va_Qi (fun (r : Int32) (_ : Unit) => r = 0) (fun (_ : Unit) t => at_E (dC, dI) (va_A [(h0, .inr (4, [.int 0, .int (bI go.isSome), .int wl]))] sz) [(h0, .inr (4, [.int 1, .int (bI go.isSome), .int wl]))] [] t) (va_A [(h0, .inr (4, [.int 0, .int (bI go.isSome), .int wl]))] sz)) 0 0 (va_A [(h0, .inr (4, [.int 0, .int (bI go.isSome), .int wl]))] sz) := by
  refine Met.ofW (cc := prog_5_method_4_code) (maxL := 2) (ret := (some .boolean)) (by decide) rfl ?_
  intro p e s m args below meth c s₁ B hml hv
  obtain ⟨rfl, hsz, hP, hK, hD0, hN⟩ := hv
  have hx := B.exec
  have hb := B.bytes
  have hr := B.returns
  have hts := atoms_spec (ws := k_P_lastsFor) B.pre
  have hw0 : ∀ w ∈ w0, w.before _ s = true := fun w h => hts w (List.mem_cons_of_mem _ h)
  have hown : s.vm.findClass R_P = some m.cls := findClass_of_methodNamed B.named
  have hlocks := B.notSynchronized
  subst hsz
  have hD := hD0.self (sz := s.heap.size)
  generalize hAe : va_A [(h0, .inr (4, [.int 0, .int (bI go.isSome), .int wl]))] s.heap.size = A at hD ⊢
  have hA : ∀ q : Nat, s.heap.size ≤ q → A q := fun q h => by rw [← hAe]; exact Or.inr h
  have hS : va_S A s.heap s.heap [] := va_S.rf
  have hP : va_P (dC, dI) vwCl [(h0, .inr (4, [.int 0, .int (bI go.isSome), .int wl]))] s.heap := hP
  have hl := lv_entry ([.ref h0, .int (nI n)]) (n := 2) (Nat.le_of_ble_eq_true rfl)
  rw [lg_entry_eq]
  generalize (lg_sl ([.ref h0, .int (nI n)]) ++ List.replicate (2 - (lg_sl ([.ref h0, .int (nI n)])).length) Slot.unset).toArray = ls at hl ⊢
  have hl : lv_has ls 2 [(0, .ref h0), (1, .int (nI n))] := hl
  refine lv_aload_n hx hb d_P_lastsFor_0 rfl (lv_at hl 0 rfl) ?_
  refine va_get (D := (dC, dI)) (ci := 4) (v := .int (bI go.isSome)) (C := R_P) (T := F_P) (N := 3) hx hb hw0 in_P hown hK hP 0 rfl rfl 1 (by decide) (hw0 (.fieldLink R_P 13 "TextKeeper$Power" "going" "Z") (List.mem_of_getElem? (i := 57) rfl)) (fun _ h9 => h9) rfl d_P_lastsFor_1 ?_
  refine lv_if_ne (tgt := 9) hx hb d_P_lastsFor_4 (by decide) (fun c_1 => ?_) (fun c_1 => absurd hw9 (by rw [x_isN9 c_1]; exact fun q => by cases q))
  refine lv_aload_n hx hb d_P_lastsFor_9 rfl (lv_at hl 0 rfl) ?_
  refine va_get (D := (dC, dI)) (ci := 4) (v := .int wl) (C := R_P) (T := F_P) (N := 3) hx hb hw0 in_P hown hK hP 0 rfl rfl 2 (by decide) (hw0 (.fieldLink R_P 16 "TextKeeper$Power" "writesLeft" "I") (List.mem_of_getElem? (i := 58) rfl)) (fun _ h9 => h9) rfl d_P_lastsFor_10 ?_
  refine lv_iload_n hx hb d_P_lastsFor_13 rfl (lv_at hl 1 rfl) ?_
  refine lv_icmp_ge (tgt := 24) hx hb d_P_lastsFor_14 (by decide) (fun c_2 => absurd c_2 (by rw [(hg w9 hw9).1]; exact nI_ge hlt (by omega))) (fun c_2 => ?_)
  refine lv_aload_n hx hb d_P_lastsFor_17 rfl (lv_at hl 0 rfl) ?_
  refine lv_iconst (v := 1) hx hb d_P_lastsFor_18 (by decide) ?_
  refine va_put (D := (dC, dI)) (ci := 4) (v := .int 1) (ty := .boolean) (C := R_P) (T := F_P) (N := 3) hx hb hw0 in_P ft_P tk_P nk_P hown hK hP hD hS 0 rfl rfl 0 (by decide) (hw0 (.fieldLink R_P 7 "TextKeeper$Power" "down" "Z") (List.mem_of_getElem? (i := 56) rfl)) (fun _ h9 => h9) rfl (by decide +kernel) rfl rfl (Nat.le_of_ble_eq_true rfl) d_P_lastsFor_19 (fun H locs hP hD hS => ?_)
  replace hP : va_P (dC, dI) vwCl [(h0, .inr (4, [.int 1, .int (bI go.isSome), .int wl]))] H := hP
  replace hD : va_D A [(h0, .inr (4, [.int 1, .int (bI go.isSome), .int wl]))] := hD
  refine lv_iconst (v := 0) hx hb d_P_lastsFor_22 (by decide) ?_
  have hP9 := hP.sub (ws' := [(h0, .inr (4, [.int 1, .int (bI go.isSome), .int wl]))]) [0] rfl
  have hD9 := hD.sub (ws' := [(h0, .inr (4, [.int 1, .int (bI go.isSome), .int wl]))]) [0] (by decide) rfl
  have hK9 := hK.sub (tys' := []) [] rfl
  exact W.zret (v := 0) (ty := .boolean) hx hb hr rfl (fun t ht hW => ⟨⟨0, (), rfl, rfl, by rw [ht]; exact hP9, va_K.moved hW.alike hK9, hD9⟩, hS.F ht⟩) hS.2.2 d_P_lastsFor_23
set_option maxHeartbeats 4000000 in
set_option maxRecDepth 100000 in
theorem g_baseOf (l : Launch) (dC : Nat → ClassId) (dI : Nat → Nat → Nat) (a1 : Int32)  : Met l y_K_baseOf k_K_baseOf ({ frames := 0, cells := 0, slots := 0, locals := 0 } : Room) (va_Pc [.int a1] (pc_R (dC, dI) [] [])) (vp_Si (fun r => r = a1 &&& (a1 - 1))) 0 0 (fun _ => False) := by
  refine Met.ofW (cc := prog_1_method_28_code) (maxL := 1) (ret := (some .int)) (by decide) rfl ?_
  intro p e s m args below meth c s₁ B hml hv
  obtain ⟨rfl, hP, hK, hN⟩ := hv
  have hx := B.exec
  have hb := B.bytes
  have hr := B.returns
  have hts := atoms_spec (ws := k_K_baseOf) B.pre
  have hw0 : ∀ w ∈ w0, w.before _ s = true := fun w h => hts w (List.mem_cons_of_mem _ h)
  have hown : s.vm.findClass R_K = some m.cls := findClass_of_methodNamed B.named
  have hlocks := B.notSynchronized
  have hP : va_P (dC, dI) vwCl [] s.heap := hP
  have hl := lv_entry ([.int a1]) (n := 1) (Nat.le_of_ble_eq_true rfl)
  rw [lg_entry_eq]
  generalize (lg_sl ([.int a1]) ++ List.replicate (1 - (lg_sl ([.int a1])).length) Slot.unset).toArray = ls at hl ⊢
  have hl : lv_has ls 1 [(0, .int a1)] := hl
  refine lv_iload_n hx hb d_K_baseOf_0 rfl (lv_at hl 0 rfl) ?_
  refine lv_iload_n hx hb d_K_baseOf_1 rfl (lv_at hl 0 rfl) ?_
  refine lv_iconst (v := 1) hx hb d_K_baseOf_2 (by decide) ?_
  refine lv_isub hx hb d_K_baseOf_3 ?_
  refine lv_topi (fun x_1 ex_1 => ?_)
  refine lv_iand hx hb d_K_baseOf_4 ?_
  refine lv_topi (fun x_2 ex_2 => ?_)
  exact W.iret (v := x_2) hx hb hr (fun t ht hW => ⟨x_2, rfl, (by rw [ex_2, ex_1]), ht⟩) (fun q h => by cases h) d_K_baseOf_5
set_option maxHeartbeats 4000000 in
set_option maxRecDepth 100000 in
theorem g_blocksFor (l : Launch) (dC : Nat → ClassId) (dI : Nat → Nat → Nat) (n : Nat) (hn : n < 2 ^ 20) : Met l y_K_blocksFor k_K_blocksFor ({ frames := 0, cells := 0, slots := 0, locals := 0 } : Room) (va_Pc [.int (nI n)] (pc_R (dC, dI) [] [])) (vp_Si (fun r => r = nI ((n + 31) / 32))) 0 0 (fun _ => False) := by
  refine Met.ofW (cc := prog_1_method_27_code) (maxL := 1) (ret := (some .int)) (by decide) rfl ?_
  intro p e s m args below meth c s₁ B hml hv
  obtain ⟨rfl, hP, hK, hN⟩ := hv
  have hx := B.exec
  have hb := B.bytes
  have hr := B.returns
  have hts := atoms_spec (ws := k_K_blocksFor) B.pre
  have hw0 : ∀ w ∈ w0, w.before _ s = true := fun w h => hts w (List.mem_cons_of_mem _ h)
  have hown : s.vm.findClass R_K = some m.cls := findClass_of_methodNamed B.named
  have hlocks := B.notSynchronized
  have hP : va_P (dC, dI) vwCl [] s.heap := hP
  have hl := lv_entry ([.int (nI n)]) (n := 1) (Nat.le_of_ble_eq_true rfl)
  rw [lg_entry_eq]
  generalize (lg_sl ([.int (nI n)]) ++ List.replicate (1 - (lg_sl ([.int (nI n)])).length) Slot.unset).toArray = ls at hl ⊢
  have hl : lv_has ls 1 [(0, .int (nI n))] := hl
  refine lv_iload_n hx hb d_K_blocksFor_0 rfl (lv_at hl 0 rfl) ?_
  refine lv_bipush (v := 32) hx hb d_K_blocksFor_1 (by decide +kernel) ?_
  refine lv_iadd hx hb d_K_blocksFor_3 ?_
  refine lv_topi (fun x_1 ex_1 => ?_)
  obtain rfl : x_1 = (nI (n + 32)) := by rw [ex_1]; exact nI_add n 32
  clear ex_1
  refine lv_iconst (v := 1) hx hb d_K_blocksFor_4 (by decide) ?_
  refine lv_isub hx hb d_K_blocksFor_5 ?_
  refine lv_topi (fun x_2 ex_2 => ?_)
  obtain rfl : x_2 = (nI (n + 31)) := by rw [ex_2]; exact (show nI (n + 32) - nI 1 = nI (n + 31) from pk_sub (by omega))
  clear ex_2
  refine lv_bipush (v := 32) hx hb d_K_blocksFor_6 (by decide +kernel) ?_
  refine lv_idiv hx hb d_K_blocksFor_8 (by decide +kernel) ?_
  refine lv_topi (fun x_3 ex_3 => ?_)
  obtain rfl : x_3 = (nI ((n + 31) / 32)) := by rw [ex_3]; exact (show nI (n + 31) / nI 32 = nI ((n + 31) / 32) from pk_div (by omega) (by decide) (by decide))
  clear ex_3
  exact W.iret (v := (nI ((n + 31) / 32))) hx hb hr (fun t ht hW => ⟨(nI ((n + 31) / 32)), rfl, rfl, ht⟩) (fun q h => by cases h) d_K_blocksFor_9
set_option maxHeartbeats 4000000 in
set_option maxRecDepth 100000 in
theorem g_initV (l : Launch) (dC : Nat → ClassId) (dI : Nat → Nat → Nat) (sz : Nat) (h0 : Nat) (hpi : Nat) (a1 : Int32) (a2 : Int32)  : Met l y_V_init k_V_init ({ frames := 1, cells := 0, slots := 0, locals := 12 } : Room) (va_Pc [.ref h0, .ref hpi, .int a1, .int a2] (pc_E (dC, dI) [(h0, .inr (6, [.null, .int 0, .int 0]))] [] sz)) (va_Qv (fun (_ : Unit) => True) (fun (_ : Unit) t => at_E (dC, dI) (va_A [(h0, .inr (6, [.null, .int 0, .int 0]))] sz) [(h0, .inr (6, [.ref hpi, .int a1, .int a2]))] [] t) (va_A [(h0, .inr (6, [.null, .int 0, .int 0]))] sz)) 0 0 (va_A [(h0, .inr (6, [.null, .int 0, .int 0]))] sz) := by
  refine Met.ofW (cc := prog_6_method_1_code) (maxL := 4) (ret := none) (by decide) rfl ?_
  intro p e s m args below meth c s₁ B hml hv
  obtain ⟨rfl, hsz, hP, hK, hD0, hN⟩ := hv
  have hx := B.exec
  have hb := B.bytes
  have hr := B.returns
  have hts := atoms_spec (ws := k_V_init) B.pre
  have hw0 : ∀ w ∈ w0, w.before _ s = true := fun w h => hts w (List.mem_cons_of_mem _ h)
  have hown : s.vm.findClass R_V = some m.cls := findClass_of_methodNamed B.named
  have hlocks := B.notSynchronized
  have hin : meth.name = "<init>" := (name_of_methodNamed B.named B.method).1
  subst hsz
  have hD := hD0.self (sz := s.heap.size)
  generalize hAe : va_A [(h0, .inr (6, [.null, .int 0, .int 0]))] s.heap.size = A at hD ⊢
  have hA : ∀ q : Nat, s.heap.size ≤ q → A q := fun q h => by rw [← hAe]; exact Or.inr h
  have hS : va_S A s.heap s.heap [] := va_S.rf
  have hP : va_P (dC, dI) vwCl [(h0, .inr (6, [.null, .int 0, .int 0]))] s.heap := hP
  have hl := lv_entry ([.ref h0, .ref hpi, .int a1, .int a2]) (n := 4) (Nat.le_of_ble_eq_true rfl)
  rw [lg_entry_eq]
  generalize (lg_sl ([.ref h0, .ref hpi, .int a1, .int a2]) ++ List.replicate (4 - (lg_sl ([.ref h0, .ref hpi, .int a1, .int a2])).length) Slot.unset).toArray = ls at hl ⊢
  have hl : lv_has ls 4 [(0, .ref h0), (1, .ref hpi), (2, .int a1), (3, .int a2)] := hl
  refine lv_aload_n hx hb d_V_init_0 rfl (lv_at hl 0 rfl) ?_
  refine W.objInit hx hb hown (hw0 (.methodLink R_V 1 objectInit) (List.mem_of_getElem? (i := 216) rfl)) (hw0 (.instanceMethod objectInit) (List.mem_of_getElem? (i := 54) rfl)) (hw0 (.code objectInit ⟨#[0xb1]⟩ 1 none) (List.mem_of_getElem? (i := 55) rfl)) rfl (by rw [hml]; exact hl.1) rfl d_V_init_1 (Nat.le_of_ble_eq_true rfl) (Nat.le_of_ble_eq_true rfl) ?_
  refine W.eq (g2 := F0 m 4 ls []) rfl ?_
  refine lv_aload_n hx hb d_V_init_4 rfl (lv_at hl 0 rfl) ?_
  refine lv_aload_n hx hb d_V_init_5 rfl (lv_at hl 1 rfl) ?_
  refine va_putF (D := (dC, dI)) (ci := 6) (v := .ref hpi) (ty := (.array .byte)) (C := R_V) (T := F_V) (N := 3) hx hb hw0 in_V ft_V tk_V nk_V hown hK hP hD hS 0 rfl rfl 0 (by decide) (hw0 (.fieldLink R_V 7 "TextKeeper$Revision" "piece" "[B") (List.mem_of_getElem? (i := 217) rfl)) (fun _ h9 => h9) rfl hin rfl (by decide +kernel) rfl rfl (Nat.le_of_ble_eq_true rfl) d_V_init_6 (fun H locs hP hD hS => ?_)
  replace hP : va_P (dC, dI) vwCl [(h0, .inr (6, [.ref hpi, .int 0, .int 0]))] H := hP
  replace hD : va_D A [(h0, .inr (6, [.ref hpi, .int 0, .int 0]))] := hD
  refine lv_aload_n hx hb d_V_init_9 rfl (lv_at hl 0 rfl) ?_
  refine lv_iload_n hx hb d_V_init_10 rfl (lv_at hl 2 rfl) ?_
  refine va_putF (D := (dC, dI)) (ci := 6) (v := .int a1) (ty := .int) (C := R_V) (T := F_V) (N := 3) hx hb hw0 in_V ft_V tk_V nk_V hown hK hP hD hS 0 rfl rfl 1 (by decide) (hw0 (.fieldLink R_V 13 "TextKeeper$Revision" "author" "I") (List.mem_of_getElem? (i := 218) rfl)) (fun _ h9 => h9) rfl hin rfl (by decide +kernel) rfl rfl (Nat.le_of_ble_eq_true rfl) d_V_init_11 (fun H locs hP hD hS => ?_)
  replace hP : va_P (dC, dI) vwCl [(h0, .inr (6, [.ref hpi, .int a1, .int 0]))] H := hP
  replace hD : va_D A [(h0, .inr (6, [.ref hpi, .int a1, .int 0]))] := hD
  refine lv_aload_n hx hb d_V_init_14 rfl (lv_at hl 0 rfl) ?_
  refine lv_iload_n hx hb d_V_init_15 rfl (lv_at hl 3 rfl) ?_
  refine va_putF (D := (dC, dI)) (ci := 6) (v := .int a2) (ty := .int) (C := R_V) (T := F_V) (N := 3) hx hb hw0 in_V ft_V tk_V nk_V hown hK hP hD hS 0 rfl rfl 2 (by decide) (hw0 (.fieldLink R_V 17 "TextKeeper$Revision" "sum" "I") (List.mem_of_getElem? (i := 219) rfl)) (fun _ h9 => h9) rfl hin rfl (by decide +kernel) rfl rfl (Nat.le_of_ble_eq_true rfl) d_V_init_16 (fun H locs hP hD hS => ?_)
  replace hP : va_P (dC, dI) vwCl [(h0, .inr (6, [.ref hpi, .int a1, .int a2]))] H := hP
  replace hD : va_D A [(h0, .inr (6, [.ref hpi, .int a1, .int a2]))] := hD
  have hP9 := hP.sub (ws' := [(h0, .inr (6, [.ref hpi, .int a1, .int a2]))]) [0] rfl
  have hD9 := hD.sub (ws' := [(h0, .inr (6, [.ref hpi, .int a1, .int a2]))]) [0] (by decide) rfl
  have hK9 := hK.sub (tys' := []) [] rfl
  exact W.vret hx hb hr (fun t ht hW => ⟨⟨(), rfl, trivial, by rw [ht]; exact hP9, va_K.moved hW.alike hK9, hD9⟩, hS.F ht⟩) hS.2.2 d_V_init_19
set_option maxHeartbeats 4000000 in
set_option maxRecDepth 100000 in
theorem g_hasByte_T (l : Launch) (dC : Nat → ClassId) (dI : Nat → Nat → Nat) (hv : Nat) (hpi : Nat) (cB : ClassId) (np : Nat) (fp : Nat → Int32) (au : Int32) (sm : Int32) (x : Nat) (hx9 : x < np) (hnp : np ≤ 1024) : Met l y_V_hasByte k_V_hasByte ({ frames := 0, cells := 0, slots := 0, locals := 0 } : Room) (va_Pc [.ref hv, .int (nI x)] (pc_R (dC, dI) [(hv, .inr (6, [.ref hpi, .int au, .int sm])), (hpi, .inl (cB, np, .inl (fp)))] [(cB, .byte)])) (vp_Si (fun r => r = 1)) 0 0 (fun _ => False) := by
  refine Met.ofW (cc := prog_6_method_2_code) (maxL := 2) (ret := (some .boolean)) (by decide) rfl ?_
  intro p e s m args below meth c s₁ B hml hv
  obtain ⟨rfl, hP, hK, hN⟩ := hv
  have hx := B.exec
  have hb := B.bytes
  have hr := B.returns
  have hts := atoms_spec (ws := k_V_hasByte) B.pre
  have hw0 : ∀ w ∈ w0, w.before _ s = true := fun w h => hts w (List.mem_cons_of_mem _ h)
  have hown : s.vm.findClass R_V = some m.cls := findClass_of_methodNamed B.named
  have hlocks := B.notSynchronized
  have hP : va_P (dC, dI) vwCl [(hv, .inr (6, [.ref hpi, .int au, .int sm])), (hpi, .inl (cB, np, .inl (fp)))] s.heap := hP
  have hl := lv_entry ([.ref hv, .int (nI x)]) (n := 2) (Nat.le_of_ble_eq_true rfl)
  rw [lg_entry_eq]
  generalize (lg_sl ([.ref hv, .int (nI x)]) ++ List.replicate (2 - (lg_sl ([.ref hv, .int (nI x)])).length) Slot.unset).toArray = ls at hl ⊢
  have hl : lv_has ls 2 [(0, .ref hv), (1, .int (nI x))] := hl
  refine lv_iload_n hx hb d_V_hasByte_0 rfl (lv_at hl 1 rfl) ?_
  refine lv_if_lt (tgt := 17) hx hb d_V_hasByte_1 (by decide) (fun c_1 => absurd c_1 (nI_pos (by omega))) (fun c_1 => ?_)
  refine lv_iload_n hx hb d_V_hasByte_4 rfl (lv_at hl 1 rfl) ?_
  refine lv_aload_n hx hb d_V_hasByte_5 rfl (lv_at hl 0 rfl) ?_
  refine va_get (D := (dC, dI)) (ci := 6) (v := .ref hpi) (C := R_V) (T := F_V) (N := 3) hx hb hw0 in_V hown hK hP 0 rfl rfl 0 (by decide) (hw0 (.fieldLink R_V 7 "TextKeeper$Revision" "piece" "[B") (List.mem_of_getElem? (i := 217) rfl)) (fun _ h9 => h9) rfl d_V_hasByte_6 ?_
  refine va_alen (v := nI np) hx hb hK hP 1 0 rfl rfl (rfl) d_V_hasByte_9 ?_
  refine lv_icmp_ge (tgt := 17) hx hb d_V_hasByte_10 (by decide) (fun c_2 => absurd c_2 (nI_ge hx9 (by omega))) (fun c_2 => ?_)
  refine lv_iconst (v := 1) hx hb d_V_hasByte_13 (by decide) ?_
  refine lv_goto (tgt := 18) hx hb d_V_hasByte_14 (by decide) ?_
  exact W.zret (v := 1) (ty := .boolean) hx hb hr rfl (fun t ht hW => ⟨1, rfl, rfl, ht⟩) (fun q h => by cases h) d_V_hasByte_18
set_option maxHeartbeats 4000000 in
set_option maxRecDepth 100000 in
theorem g_hasByte_F (l : Launch) (dC : Nat → ClassId) (dI : Nat → Nat → Nat) (hv : Nat) (hpi : Nat) (cB : ClassId) (np : Nat) (fp : Nat → Int32) (au : Int32) (sm : Int32) (a1 : Int32) (hx9 : a1 < 0 ∨ nI np ≤ a1) : Met l y_V_hasByte k_V_hasByte ({ frames := 0, cells := 0, slots := 0, locals := 0 } : Room) (va_Pc [.ref hv, .int a1] (pc_R (dC, dI) [(hv, .inr (6, [.ref hpi, .int au, .int sm])), (hpi, .inl (cB, np, .inl (fp)))] [(cB, .byte)])) (vp_Si (fun r => r = 0)) 0 0 (fun _ => False) := by
  refine Met.ofW (cc := prog_6_method_2_code) (maxL := 2) (ret := (some .boolean)) (by decide) rfl ?_
  intro p e s m args below meth c s₁ B hml hv
  obtain ⟨rfl, hP, hK, hN⟩ := hv
  have hx := B.exec
  have hb := B.bytes
  have hr := B.returns
  have hts := atoms_spec (ws := k_V_hasByte) B.pre
  have hw0 : ∀ w ∈ w0, w.before _ s = true := fun w h => hts w (List.mem_cons_of_mem _ h)
  have hown : s.vm.findClass R_V = some m.cls := findClass_of_methodNamed B.named
  have hlocks := B.notSynchronized
  have hP : va_P (dC, dI) vwCl [(hv, .inr (6, [.ref hpi, .int au, .int sm])), (hpi, .inl (cB, np, .inl (fp)))] s.heap := hP
  have hl := lv_entry ([.ref hv, .int a1]) (n := 2) (Nat.le_of_ble_eq_true rfl)
  rw [lg_entry_eq]
  generalize (lg_sl ([.ref hv, .int a1]) ++ List.replicate (2 - (lg_sl ([.ref hv, .int a1])).length) Slot.unset).toArray = ls at hl ⊢
  have hl : lv_has ls 2 [(0, .ref hv), (1, .int a1)] := hl
  refine lv_iload_n hx hb d_V_hasByte_0 rfl (lv_at hl 1 rfl) ?_
  refine lv_if_lt (tgt := 17) hx hb d_V_hasByte_1 (by decide) (fun c_1 => ?_) (fun c_1 => ?_)
  · refine lv_iconst (v := 0) hx hb d_V_hasByte_17 (by decide) ?_
    exact W.zret (v := 0) (ty := .boolean) hx hb hr rfl (fun t ht hW => ⟨0, rfl, rfl, ht⟩) (fun q h => by cases h) d_V_hasByte_18
  · refine lv_iload_n hx hb d_V_hasByte_4 rfl (lv_at hl 1 rfl) ?_
    refine lv_aload_n hx hb d_V_hasByte_5 rfl (lv_at hl 0 rfl) ?_
    refine va_get (D := (dC, dI)) (ci := 6) (v := .ref hpi) (C := R_V) (T := F_V) (N := 3) hx hb hw0 in_V hown hK hP 0 rfl rfl 0 (by decide) (hw0 (.fieldLink R_V 7 "TextKeeper$Revision" "piece" "[B") (List.mem_of_getElem? (i := 217) rfl)) (fun _ h9 => h9) rfl d_V_hasByte_6 ?_
    refine va_alen (v := nI np) hx hb hK hP 1 0 rfl rfl (rfl) d_V_hasByte_9 ?_
    refine lv_icmp_ge (tgt := 17) hx hb d_V_hasByte_10 (by decide) (fun c_2 => ?_) (fun c_2 => absurd hx9 (fun q => q.elim c_1 c_2))
    refine lv_iconst (v := 0) hx hb d_V_hasByte_17 (by decide) ?_
    exact W.zret (v := 0) (ty := .boolean) hx hb hr rfl (fun t ht hW => ⟨0, rfl, rfl, ht⟩) (fun q h => by cases h) d_V_hasByte_18
set_option maxHeartbeats 4000000 in
set_option maxRecDepth 100000 in
theorem g_initD (l : Launch) (dC : Nat → ClassId) (dI : Nat → Nat → Nat) (sz : Nat) (hdo : Nat)  : Met l y_D_init k_D_init ({ frames := 1, cells := 1, slots := 64, locals := 12 } : Room) (va_Pc [.ref hdo] (pc_E (dC, dI) [(hdo, .inr (5, [.null, .int 0, .int 0]))] [] sz)) (va_Qv (fun (_ : Unit) => True) (fun (_ : Unit) t => ∃ (hra : Nat) (cR : ClassId), at_E (dC, dI) (va_A [(hdo, .inr (5, [.null, .int 0, .int 0]))] sz) [(hdo, .inr (5, [.ref hra, .int 0, .int 0])), (hra, .inl (cR, 64, .inr (.inr (.inr (.inr (fun _ => none))))))] [(cR, .object R_V)] t) (va_A [(hdo, .inr (5, [.null, .int 0, .int 0]))] sz)) 1 64 (va_A [(hdo, .inr (5, [.null, .int 0, .int 0]))] sz) := by
  refine Met.ofW (cc := prog_2_method_1_code) (maxL := 1) (ret := none) (by decide) rfl ?_
  intro p e s m args below meth c s₁ B hml hv
  obtain ⟨rfl, hsz, hP, hK, hD0, hN⟩ := hv
  have hx := B.exec
  have hb := B.bytes
  have hr := B.returns
  have hts := atoms_spec (ws := k_D_init) B.pre
  have hw0 : ∀ w ∈ w0, w.before _ s = true := fun w h => hts w (List.mem_cons_of_mem _ h)
  have hown : s.vm.findClass R_D = some m.cls := findClass_of_methodNamed B.named
  have hlocks := B.notSynchronized
  have hin : meth.name = "<init>" := (name_of_methodNamed B.named B.method).1
  subst hsz
  have hD := hD0.self (sz := s.heap.size)
  generalize hAe : va_A [(hdo, .inr (5, [.null, .int 0, .int 0]))] s.heap.size = A at hD ⊢
  have hA : ∀ q : Nat, s.heap.size ≤ q → A q := fun q h => by rw [← hAe]; exact Or.inr h
  have hS : va_S A s.heap s.heap [] := va_S.rf
  have hP : va_P (dC, dI) vwCl [(hdo, .inr (5, [.null, .int 0, .int 0]))] s.heap := hP
  have hl := lv_entry ([.ref hdo]) (n := 1) (Nat.le_of_ble_eq_true rfl)
  rw [lg_entry_eq]
  generalize (lg_sl ([.ref hdo]) ++ List.replicate (1 - (lg_sl ([.ref hdo])).length) Slot.unset).toArray = ls at hl ⊢
  have hl : lv_has ls 1 [(0, .ref hdo)] := hl
  refine lv_aload_n hx hb d_D_init_0 rfl (lv_at hl 0 rfl) ?_
  refine W.objInit hx hb hown (hw0 (.methodLink R_D 3 objectInit) (List.mem_of_getElem? (i := 220) rfl)) (hw0 (.instanceMethod objectInit) (List.mem_of_getElem? (i := 54) rfl)) (hw0 (.code objectInit ⟨#[0xb1]⟩ 1 none) (List.mem_of_getElem? (i := 55) rfl)) rfl (by rw [hml]; exact hl.1) rfl d_D_init_1 (Nat.le_of_ble_eq_true rfl) (Nat.le_of_ble_eq_true rfl) ?_
  refine W.eq (g2 := F0 m 4 ls []) rfl ?_
  refine lv_aload_n hx hb d_D_init_4 rfl (lv_at hl 0 rfl) ?_
  refine lv_bipush (v := 64) hx hb d_D_init_5 (by decide +kernel) ?_
  refine va_newq (N' := 64) hx hb hown (hw0 (.classLink R_D 9 R_V) (List.mem_of_getElem? (i := 221) rfl)) (hN.2 _ (List.mem_of_getElem? (i := 1) rfl)) hK hP hD hS hA (by decide +kernel) (by decide +kernel) (by decide +kernel) (by decide +kernel) (by decide +kernel) d_D_init_7 (fun q_1 cA_2 H hK hP hD hS => ?_)
  replace hK : va_K (dC, dI) vwCl [(cA_2, .object R_V)] s := hK
  replace hP : va_P (dC, dI) vwCl [(hdo, .inr (5, [.null, .int 0, .int 0])), (q_1, .inl (cA_2, 64, .inr (.inr (.inr (.inr (fun _ => none))))))] H := hP
  replace hD : va_D A [(hdo, .inr (5, [.null, .int 0, .int 0])), (q_1, .inl (cA_2, 64, .inr (.inr (.inr (.inr (fun _ => none))))))] := hD
  refine W.widen (k := 1) (n := 64) (by decide +kernel) (by decide +kernel) ?_
  refine va_putF (D := (dC, dI)) (ci := 5) (v := .ref q_1) (ty := (.array (.object "TextKeeper$Revision"))) (C := R_D) (T := F_D) (N := 3) hx hb hw0 in_D ft_D tk_D nk_D hown hK hP hD hS 0 rfl rfl 0 (by decide) (hw0 (.fieldLink R_D 11 "TextKeeper$Document" "revisions" "[LTextKeeper$Revision;") (List.mem_of_getElem? (i := 222) rfl)) (fun _ h9 => h9) rfl hin rfl (by decide +kernel) rfl rfl (Nat.le_of_ble_eq_true rfl) d_D_init_10 (fun H locs hP hD hS => ?_)
  replace hP : va_P (dC, dI) vwCl [(hdo, .inr (5, [.ref q_1, .int 0, .int 0])), (q_1, .inl (cA_2, 64, .inr (.inr (.inr (.inr (fun _ => none))))))] H := hP
  replace hD : va_D A [(hdo, .inr (5, [.ref q_1, .int 0, .int 0])), (q_1, .inl (cA_2, 64, .inr (.inr (.inr (.inr (fun _ => none))))))] := hD
  refine lv_aload_n hx hb d_D_init_13 rfl (lv_at hl 0 rfl) ?_
  refine lv_iconst (v := 0) hx hb d_D_init_14 (by decide) ?_
  refine va_put (D := (dC, dI)) (ci := 5) (v := .int 0) (ty := .int) (C := R_D) (T := F_D) (N := 3) hx hb hw0 in_D ft_D tk_D nk_D hown hK hP hD hS 0 rfl rfl 1 (by decide) (hw0 (.fieldLink R_D 17 "TextKeeper$Document" "first" "I") (List.mem_of_getElem? (i := 223) rfl)) (fun _ h9 => h9) rfl (by decide +kernel) rfl rfl (Nat.le_of_ble_eq_true rfl) d_D_init_15 (fun H locs hP hD hS => ?_)
  replace hP : va_P (dC, dI) vwCl [(hdo, .inr (5, [.ref q_1, .int 0, .int 0])), (q_1, .inl (cA_2, 64, .inr (.inr (.inr (.inr (fun _ => none))))))] H := hP
  replace hD : va_D A [(hdo, .inr (5, [.ref q_1, .int 0, .int 0])), (q_1, .inl (cA_2, 64, .inr (.inr (.inr (.inr (fun _ => none))))))] := hD
  refine lv_aload_n hx hb d_D_init_18 rfl (lv_at hl 0 rfl) ?_
  refine lv_iconst (v := 0) hx hb d_D_init_19 (by decide) ?_
  refine va_put (D := (dC, dI)) (ci := 5) (v := .int 0) (ty := .int) (C := R_D) (T := F_D) (N := 3) hx hb hw0 in_D ft_D tk_D nk_D hown hK hP hD hS 0 rfl rfl 2 (by decide) (hw0 (.fieldLink R_D 21 "TextKeeper$Document" "count" "I") (List.mem_of_getElem? (i := 224) rfl)) (fun _ h9 => h9) rfl (by decide +kernel) rfl rfl (Nat.le_of_ble_eq_true rfl) d_D_init_20 (fun H locs hP hD hS => ?_)
  replace hP : va_P (dC, dI) vwCl [(hdo, .inr (5, [.ref q_1, .int 0, .int 0])), (q_1, .inl (cA_2, 64, .inr (.inr (.inr (.inr (fun _ => none))))))] H := hP
  replace hD : va_D A [(hdo, .inr (5, [.ref q_1, .int 0, .int 0])), (q_1, .inl (cA_2, 64, .inr (.inr (.inr (.inr (fun _ => none))))))] := hD
  have hP9 := hP.sub (ws' := [(hdo, .inr (5, [.ref q_1, .int 0, .int 0])), (q_1, .inl (cA_2, 64, .inr (.inr (.inr (.inr (fun _ => none))))))]) [0, 1] rfl
  have hD9 := hD.sub (ws' := [(hdo, .inr (5, [.ref q_1, .int 0, .int 0])), (q_1, .inl (cA_2, 64, .inr (.inr (.inr (.inr (fun _ => none))))))]) [0, 1] (by decide) rfl
  have hK9 := hK.sub (tys' := [(cA_2, .object R_V)]) [0] rfl
  exact W.vret hx hb hr (fun t ht hW => ⟨⟨(), rfl, trivial, q_1, cA_2, by rw [ht]; exact hP9, va_K.moved hW.alike hK9, hD9⟩, hS.F ht⟩) hS.2.2 d_D_init_23
set_option maxHeartbeats 4000000 in
set_option maxRecDepth 100000 in
theorem g_isFull (l : Launch) (dC : Nat → ClassId) (dI : Nat → Nat → Nat) (hdo : Nat) (hra : Nat) (cR : ClassId) (df : Nat) (dn : Nat) (fr : Nat → Option Nat) (hdn : dn ≤ 64) : Met l y_D_isFull k_D_isFull ({ frames := 0, cells := 0, slots := 0, locals := 0 } : Room) (va_Pc [.ref hdo] (pc_R (dC, dI) [(hdo, .inr (5, [.ref hra, .int (nI df), .int (nI dn)])), (hra, .inl (cR, 64, .inr (.inr (.inr (.inr (fr))))))] [(cR, .object R_V)])) (vp_Si (fun r => r = bI (decide (64 ≤ dn)))) 0 0 (fun _ => False) := by
  refine Met.ofW (cc := prog_2_method_2_code) (maxL := 1) (ret := (some .boolean)) (by decide) rfl ?_
  intro p e s m args below meth c s₁ B hml hv
  obtain ⟨rfl, hP, hK, hN⟩ := hv
  have hx := B.exec
  have hb := B.bytes
  have hr := B.returns
  have hts := atoms_spec (ws := k_D_isFull) B.pre
  have hw0 : ∀ w ∈ w0, w.before _ s = true := fun w h => hts w (List.mem_cons_of_mem _ h)
  have hown : s.vm.findClass R_D = some m.cls := findClass_of_methodNamed B.named
  have hlocks := B.notSynchronized
  have hP : va_P (dC, dI) vwCl [(hdo, .inr (5, [.ref hra, .int (nI df), .int (nI dn)])), (hra, .inl (cR, 64, .inr (.inr (.inr (.inr (fr))))))] s.heap := hP
  have hl := lv_entry ([.ref hdo]) (n := 1) (Nat.le_of_ble_eq_true rfl)
  rw [lg_entry_eq]
  generalize (lg_sl ([.ref hdo]) ++ List.replicate (1 - (lg_sl ([.ref hdo])).length) Slot.unset).toArray = ls at hl ⊢
  have hl : lv_has ls 1 [(0, .ref hdo)] := hl
  refine lv_aload_n hx hb d_D_isFull_0 rfl (lv_at hl 0 rfl) ?_
  refine va_get (D := (dC, dI)) (ci := 5) (v := .int (nI dn)) (C := R_D) (T := F_D) (N := 3) hx hb hw0 in_D hown hK hP 0 rfl rfl 2 (by decide) (hw0 (.fieldLink R_D 21 "TextKeeper$Document" "count" "I") (List.mem_of_getElem? (i := 224) rfl)) (fun _ h9 => h9) rfl d_D_isFull_1 ?_
  refine lv_bipush (v := 64) hx hb d_D_isFull_4 (by decide +kernel) ?_
  refine lv_icmp_lt (tgt := 13) hx hb d_D_isFull_6 (by decide) (fun c_1 => ?_) (fun c_1 => ?_)
  · refine lv_iconst (v := 0) hx hb d_D_isFull_13 (by decide) ?_
    exact W.zret (v := 0) (ty := .boolean) hx hb hr rfl (fun t ht hW => ⟨0, rfl, (by have h9 := c_1; rw [bI, decide_eq_false (fun q => by have := Int32.not_le.mpr h9; exact this (nI_le (a := 64) q (by omega)))]; rfl), ht⟩) (fun q h => by cases h) d_D_isFull_14
  · refine lv_iconst (v := 1) hx hb d_D_isFull_9 (by decide) ?_
    refine lv_goto (tgt := 14) hx hb d_D_isFull_10 (by decide) ?_
    exact W.zret (v := 1) (ty := .boolean) hx hb hr rfl (fun t ht hW => ⟨1, rfl, (by have h9 := c_1; rw [bI, decide_eq_true (by rcases Nat.lt_or_ge dn 64 with z | z; exact absurd (nI_lt z (by decide)) h9; exact z)]; rfl), ht⟩) (fun q h => by cases h) d_D_isFull_14
set_option maxHeartbeats 4000000 in
set_option maxRecDepth 100000 in
theorem g_newest (l : Launch) (dC : Nat → ClassId) (dI : Nat → Nat → Nat) (hdo : Nat) (hra : Nat) (cR : ClassId) (df : Nat) (dn : Nat) (fr : Nat → Option Nat) (hdn : dn ≤ 64) : Met l y_D_newest k_D_newest ({ frames := 0, cells := 0, slots := 0, locals := 0 } : Room) (va_Pc [.ref hdo] (pc_R (dC, dI) [(hdo, .inr (5, [.ref hra, .int (nI df), .int (nI dn)])), (hra, .inl (cR, 64, .inr (.inr (.inr (.inr (fr))))))] [(cR, .object R_V)])) (vp_Si (fun r => r = nwI dn)) 0 0 (fun _ => False) := by
  refine Met.ofW (cc := prog_2_method_3_code) (maxL := 1) (ret := (some .int)) (by decide) rfl ?_
  intro p e s m args below meth c s₁ B hml hv
  obtain ⟨rfl, hP, hK, hN⟩ := hv
  have hx := B.exec
  have hb := B.bytes
  have hr := B.returns
  have hts := atoms_spec (ws := k_D_newest) B.pre
  have hw0 : ∀ w ∈ w0, w.before _ s = true := fun w h => hts w (List.mem_cons_of_mem _ h)
  have hown : s.vm.findClass R_D = some m.cls := findClass_of_methodNamed B.named
  have hlocks := B.notSynchronized
  have hP : va_P (dC, dI) vwCl [(hdo, .inr (5, [.ref hra, .int (nI df), .int (nI dn)])), (hra, .inl (cR, 64, .inr (.inr (.inr (.inr (fr))))))] s.heap := hP
  have hl := lv_entry ([.ref hdo]) (n := 1) (Nat.le_of_ble_eq_true rfl)
  rw [lg_entry_eq]
  generalize (lg_sl ([.ref hdo]) ++ List.replicate (1 - (lg_sl ([.ref hdo])).length) Slot.unset).toArray = ls at hl ⊢
  have hl : lv_has ls 1 [(0, .ref hdo)] := hl
  refine lv_aload_n hx hb d_D_newest_0 rfl (lv_at hl 0 rfl) ?_
  refine va_get (D := (dC, dI)) (ci := 5) (v := .int (nI dn)) (C := R_D) (T := F_D) (N := 3) hx hb hw0 in_D hown hK hP 0 rfl rfl 2 (by decide) (hw0 (.fieldLink R_D 21 "TextKeeper$Document" "count" "I") (List.mem_of_getElem? (i := 224) rfl)) (fun _ h9 => h9) rfl d_D_newest_1 ?_
  refine lv_if_le (tgt := 16) hx hb d_D_newest_4 (by decide) (fun c_1 => ?_) (fun c_1 => ?_)
  · have hz9 : dn = 0 := (by rcases Nat.eq_zero_or_pos dn with z | z; exact z; exact absurd c_1 (nI_nle z (by omega)))
    refine lv_iconst (v := (-1)) hx hb d_D_newest_16 (by decide) ?_
    exact W.iret (v := (-1)) hx hb hr (fun t ht hW => ⟨(-1), rfl, (by rw [hz9]; rfl), ht⟩) (fun q h => by cases h) d_D_newest_17
  · have hz9 : 0 < dn := (by rcases Nat.eq_zero_or_pos dn with z | z; exact absurd (by rw [z]; decide) c_1; exact z)
    refine lv_aload_n hx hb d_D_newest_7 rfl (lv_at hl 0 rfl) ?_
    refine va_get (D := (dC, dI)) (ci := 5) (v := .int (nI dn)) (C := R_D) (T := F_D) (N := 3) hx hb hw0 in_D hown hK hP 0 rfl rfl 2 (by decide) (hw0 (.fieldLink R_D 21 "TextKeeper$Document" "count" "I") (List.mem_of_getElem? (i := 224) rfl)) (fun _ h9 => h9) rfl d_D_newest_8 ?_
    refine lv_iconst (v := 1) hx hb d_D_newest_11 (by decide) ?_
    refine lv_isub hx hb d_D_newest_12 ?_
    refine lv_topi (fun x_2 ex_2 => ?_)
    refine lv_goto (tgt := 17) hx hb d_D_newest_13 (by decide) ?_
    exact W.iret (v := x_2) hx hb hr (fun t ht hW => ⟨x_2, rfl, (by rw [ex_2]; exact nwI_s hz9), ht⟩) (fun q h => by cases h) d_D_newest_17
set_option maxHeartbeats 4000000 in
set_option maxRecDepth 100000 in
theorem g_asked_T (l : Launch) (dC : Nat → ClassId) (dI : Nat → Nat → Nat) (hdo : Nat) (hra : Nat) (cR : ClassId) (df : Nat) (dn : Nat) (fr : Nat → Option Nat) (r9 : Nat) (hdn : dn ≤ 64) (ha1 : df ≤ r9) (ha2 : r9 < dn) : Met l y_D_canBeAsked k_D_canBeAsked ({ frames := 0, cells := 0, slots := 0, locals := 0 } : Room) (va_Pc [.ref hdo, .int (nI r9)] (pc_R (dC, dI) [(hdo, .inr (5, [.ref hra, .int (nI df), .int (nI dn)])), (hra, .inl (cR, 64, .inr (.inr (.inr (.inr (fr))))))] [(cR, .object R_V)])) (vp_Si (fun r => r = 1)) 0 0 (fun _ => False) := by
  refine Met.ofW (cc := prog_2_method_4_code) (maxL := 2) (ret := (some .boolean)) (by decide) rfl ?_
  intro p e s m args below meth c s₁ B hml hv
  obtain ⟨rfl, hP, hK, hN⟩ := hv
  have hx := B.exec
  have hb := B.bytes
  have hr := B.returns
  have hts := atoms_spec (ws := k_D_canBeAsked) B.pre
  have hw0 : ∀ w ∈ w0, w.before _ s = true := fun w h => hts w (List.mem_cons_of_mem _ h)
  have hown : s.vm.findClass R_D = some m.cls := findClass_of_methodNamed B.named
  have hlocks := B.notSynchronized
  have hP : va_P (dC, dI) vwCl [(hdo, .inr (5, [.ref hra, .int (nI df), .int (nI dn)])), (hra, .inl (cR, 64, .inr (.inr (.inr (.inr (fr))))))] s.heap := hP
  have hl := lv_entry ([.ref hdo, .int (nI r9)]) (n := 2) (Nat.le_of_ble_eq_true rfl)
  rw [lg_entry_eq]
  generalize (lg_sl ([.ref hdo, .int (nI r9)]) ++ List.replicate (2 - (lg_sl ([.ref hdo, .int (nI r9)])).length) Slot.unset).toArray = ls at hl ⊢
  have hl : lv_has ls 2 [(0, .ref hdo), (1, .int (nI r9))] := hl
  refine lv_iload_n hx hb d_D_canBeAsked_0 rfl (lv_at hl 1 rfl) ?_
  refine lv_aload_n hx hb d_D_canBeAsked_1 rfl (lv_at hl 0 rfl) ?_
  refine va_get (D := (dC, dI)) (ci := 5) (v := .int (nI df)) (C := R_D) (T := F_D) (N := 3) hx hb hw0 in_D hown hK hP 0 rfl rfl 1 (by decide) (hw0 (.fieldLink R_D 17 "TextKeeper$Document" "first" "I") (List.mem_of_getElem? (i := 223) rfl)) (fun _ h9 => h9) rfl d_D_canBeAsked_2 ?_
  refine lv_icmp_lt (tgt := 20) hx hb d_D_canBeAsked_5 (by decide) (fun c_1 => absurd c_1 (Int32.not_lt.mpr (nI_le ha1 (by omega)))) (fun c_1 => ?_)
  refine lv_iload_n hx hb d_D_canBeAsked_8 rfl (lv_at hl 1 rfl) ?_
  refine lv_aload_n hx hb d_D_canBeAsked_9 rfl (lv_at hl 0 rfl) ?_
  refine va_get (D := (dC, dI)) (ci := 5) (v := .int (nI dn)) (C := R_D) (T := F_D) (N := 3) hx hb hw0 in_D hown hK hP 0 rfl rfl 2 (by decide) (hw0 (.fieldLink R_D 21 "TextKeeper$Document" "count" "I") (List.mem_of_getElem? (i := 224) rfl)) (fun _ h9 => h9) rfl d_D_canBeAsked_10 ?_
  refine lv_icmp_ge (tgt := 20) hx hb d_D_canBeAsked_13 (by decide) (fun c_2 => absurd c_2 (nI_ge ha2 (by omega))) (fun c_2 => ?_)
  refine lv_iconst (v := 1) hx hb d_D_canBeAsked_16 (by decide) ?_
  refine lv_goto (tgt := 21) hx hb d_D_canBeAsked_17 (by decide) ?_
  exact W.zret (v := 1) (ty := .boolean) hx hb hr rfl (fun t ht hW => ⟨1, rfl, rfl, ht⟩) (fun q h => by cases h) d_D_canBeAsked_21
set_option maxHeartbeats 4000000 in
set_option maxRecDepth 100000 in
theorem g_asked_F (l : Launch) (dC : Nat → ClassId) (dI : Nat → Nat → Nat) (hdo : Nat) (hra : Nat) (cR : ClassId) (df : Nat) (dn : Nat) (fr : Nat → Option Nat) (a1 : Int32) (hna : a1 < nI df ∨ nI dn ≤ a1) : Met l y_D_canBeAsked k_D_canBeAsked ({ frames := 0, cells := 0, slots := 0, locals := 0 } : Room) (va_Pc [.ref hdo, .int a1] (pc_R (dC, dI) [(hdo, .inr (5, [.ref hra, .int (nI df), .int (nI dn)])), (hra, .inl (cR, 64, .inr (.inr (.inr (.inr (fr))))))] [(cR, .object R_V)])) (vp_Si (fun r => r = 0)) 0 0 (fun _ => False) := by
  refine Met.ofW (cc := prog_2_method_4_code) (maxL := 2) (ret := (some .boolean)) (by decide) rfl ?_
  intro p e s m args below meth c s₁ B hml hv
  obtain ⟨rfl, hP, hK, hN⟩ := hv
  have hx := B.exec
  have hb := B.bytes
  have hr := B.returns
  have hts := atoms_spec (ws := k_D_canBeAsked) B.pre
  have hw0 : ∀ w ∈ w0, w.before _ s = true := fun w h => hts w (List.mem_cons_of_mem _ h)
  have hown : s.vm.findClass R_D = some m.cls := findClass_of_methodNamed B.named
  have hlocks := B.notSynchronized
  have hP : va_P (dC, dI) vwCl [(hdo, .inr (5, [.ref hra, .int (nI df), .int (nI dn)])), (hra, .inl (cR, 64, .inr (.inr (.inr (.inr (fr))))))] s.heap := hP
  have hl := lv_entry ([.ref hdo, .int a1]) (n := 2) (Nat.le_of_ble_eq_true rfl)
  rw [lg_entry_eq]
  generalize (lg_sl ([.ref hdo, .int a1]) ++ List.replicate (2 - (lg_sl ([.ref hdo, .int a1])).length) Slot.unset).toArray = ls at hl ⊢
  have hl : lv_has ls 2 [(0, .ref hdo), (1, .int a1)] := hl
  refine lv_iload_n hx hb d_D_canBeAsked_0 rfl (lv_at hl 1 rfl) ?_
  refine lv_aload_n hx hb d_D_canBeAsked_1 rfl (lv_at hl 0 rfl) ?_
  refine va_get (D := (dC, dI)) (ci := 5) (v := .int (nI df)) (C := R_D) (T := F_D) (N := 3) hx hb hw0 in_D hown hK hP 0 rfl rfl 1 (by decide) (hw0 (.fieldLink R_D 17 "TextKeeper$Document" "first" "I") (List.mem_of_getElem? (i := 223) rfl)) (fun _ h9 => h9) rfl d_D_canBeAsked_2 ?_
  refine lv_icmp_lt (tgt := 20) hx hb d_D_canBeAsked_5 (by decide) (fun c_1 => ?_) (fun c_1 => ?_)
  · refine lv_iconst (v := 0) hx hb d_D_canBeAsked_20 (by decide) ?_
    exact W.zret (v := 0) (ty := .boolean) hx hb hr rfl (fun t ht hW => ⟨0, rfl, rfl, ht⟩) (fun q h => by cases h) d_D_canBeAsked_21
  · refine lv_iload_n hx hb d_D_canBeAsked_8 rfl (lv_at hl 1 rfl) ?_
    refine lv_aload_n hx hb d_D_canBeAsked_9 rfl (lv_at hl 0 rfl) ?_
    refine va_get (D := (dC, dI)) (ci := 5) (v := .int (nI dn)) (C := R_D) (T := F_D) (N := 3) hx hb hw0 in_D hown hK hP 0 rfl rfl 2 (by decide) (hw0 (.fieldLink R_D 21 "TextKeeper$Document" "count" "I") (List.mem_of_getElem? (i := 224) rfl)) (fun _ h9 => h9) rfl d_D_canBeAsked_10 ?_
    refine lv_icmp_ge (tgt := 20) hx hb d_D_canBeAsked_13 (by decide) (fun c_2 => ?_) (fun c_2 => absurd hna (fun q => q.elim c_1 c_2))
    refine lv_iconst (v := 0) hx hb d_D_canBeAsked_20 (by decide) ?_
    exact W.zret (v := 0) (ty := .boolean) hx hb hr rfl (fun t ht hW => ⟨0, rfl, rfl, ht⟩) (fun q h => by cases h) d_D_canBeAsked_21
set_option maxHeartbeats 4000000 in
set_option maxRecDepth 100000 in
theorem g_keptAt_N (l : Launch) (dC : Nat → ClassId) (dI : Nat → Nat → Nat) (hdo : Nat) (hra : Nat) (cR : ClassId) (df : Nat) (dn : Nat) (fr : Nat → Option Nat) (a1 : Int32) (hdn : dn ≤ 64) (hkN : atN dn fr a1 = none) : Met l y_D_keptAt k_D_keptAt ({ frames := 0, cells := 0, slots := 0, locals := 0 } : Room) (va_Pc [.ref hdo, .int a1] (pc_R (dC, dI) [(hdo, .inr (5, [.ref hra, .int (nI df), .int (nI dn)])), (hra, .inl (cR, 64, .inr (.inr (.inr (.inr (fr))))))] [(cR, .object R_V)])) (va_Sq (fun r => r = none)) 0 0 (fun _ => False) := by
  refine Met.ofW (cc := prog_2_method_5_code) (maxL := 2) (ret := (some (.object "TextKeeper$Revision"))) (by decide) rfl ?_
  intro p e s m args below meth c s₁ B hml hv
  obtain ⟨rfl, hP, hK, hN⟩ := hv
  have hx := B.exec
  have hb := B.bytes
  have hr := B.returns
  have hts := atoms_spec (ws := k_D_keptAt) B.pre
  have hw0 : ∀ w ∈ w0, w.before _ s = true := fun w h => hts w (List.mem_cons_of_mem _ h)
  have hown : s.vm.findClass R_D = some m.cls := findClass_of_methodNamed B.named
  have hlocks := B.notSynchronized
  have hP : va_P (dC, dI) vwCl [(hdo, .inr (5, [.ref hra, .int (nI df), .int (nI dn)])), (hra, .inl (cR, 64, .inr (.inr (.inr (.inr (fr))))))] s.heap := hP
  have hl := lv_entry ([.ref hdo, .int a1]) (n := 2) (Nat.le_of_ble_eq_true rfl)
  rw [lg_entry_eq]
  generalize (lg_sl ([.ref hdo, .int a1]) ++ List.replicate (2 - (lg_sl ([.ref hdo, .int a1])).length) Slot.unset).toArray = ls at hl ⊢
  have hl : lv_has ls 2 [(0, .ref hdo), (1, .int a1)] := hl
  refine lv_iload_n hx hb d_D_keptAt_0 rfl (lv_at hl 1 rfl) ?_
  refine lv_if_lt (tgt := 21) hx hb d_D_keptAt_1 (by decide) (fun c_1 => ?_) (fun c_1 => ?_)
  · refine lv_null hx hb d_D_keptAt_21 ?_
    exact W.aret (v := .null) hx hb hr (Or.inl ⟨_, rfl⟩) (Or.inl rfl) (fun t ht hW => ⟨none, rfl, rfl, ht⟩) (fun q h => by cases h) d_D_keptAt_22
  · refine lv_iload_n hx hb d_D_keptAt_4 rfl (lv_at hl 1 rfl) ?_
    refine lv_aload_n hx hb d_D_keptAt_5 rfl (lv_at hl 0 rfl) ?_
    refine va_get (D := (dC, dI)) (ci := 5) (v := .int (nI dn)) (C := R_D) (T := F_D) (N := 3) hx hb hw0 in_D hown hK hP 0 rfl rfl 2 (by decide) (hw0 (.fieldLink R_D 21 "TextKeeper$Document" "count" "I") (List.mem_of_getElem? (i := 224) rfl)) (fun _ h9 => h9) rfl d_D_keptAt_6 ?_
    refine lv_icmp_ge (tgt := 21) hx hb d_D_keptAt_9 (by decide) (fun c_2 => ?_) (fun c_2 => ?_)
    · refine lv_null hx hb d_D_keptAt_21 ?_
      exact W.aret (v := .null) hx hb hr (Or.inl ⟨_, rfl⟩) (Or.inl rfl) (fun t ht hW => ⟨none, rfl, rfl, ht⟩) (fun q h => by cases h) d_D_keptAt_22
    · refine lv_aload_n hx hb d_D_keptAt_12 rfl (lv_at hl 0 rfl) ?_
      refine va_get (D := (dC, dI)) (ci := 5) (v := .ref hra) (C := R_D) (T := F_D) (N := 3) hx hb hw0 in_D hown hK hP 0 rfl rfl 0 (by decide) (hw0 (.fieldLink R_D 11 "TextKeeper$Document" "revisions" "[LTextKeeper$Revision;") (List.mem_of_getElem? (i := 222) rfl)) (fun _ h9 => h9) rfl d_D_keptAt_13 ?_
      refine lv_iload_n hx hb d_D_keptAt_16 rfl (lv_at hl 1 rfl) ?_
      refine va_aldq hx hb hK hP 1 0 rfl rfl (x_inK hdn (by decide) c_1 c_2) d_D_keptAt_17 ?_
      refine W.eq (g2 := F0 m 18 ls [.null]) (by rw [show (fr) (Int32.toNatClampNeg a1) = none from (by have h9 := hkN; rw [atN, if_neg (fun q => q.elim c_1 c_2)] at h9; exact h9)]; rfl) ?_
      refine lv_goto (tgt := 22) hx hb d_D_keptAt_18 (by decide) ?_
      exact W.aret (v := .null) hx hb hr (Or.inl ⟨_, rfl⟩) (Or.inl rfl) (fun t ht hW => ⟨none, rfl, rfl, ht⟩) (fun q h => by cases h) d_D_keptAt_22
set_option maxHeartbeats 4000000 in
set_option maxRecDepth 100000 in
theorem g_keptAt_S (l : Launch) (dC : Nat → ClassId) (dI : Nat → Nat → Nat) (hdo : Nat) (hra : Nat) (cR : ClassId) (df : Nat) (dn : Nat) (fr : Nat → Option Nat) (a1 : Int32) (ha : Nat) (hdn : dn ≤ 64) (hkS : atN dn fr a1 = some ha) : Met l y_D_keptAt k_D_keptAt ({ frames := 0, cells := 0, slots := 0, locals := 0 } : Room) (va_Pc [.ref hdo, .int a1] (pc_R (dC, dI) [(hdo, .inr (5, [.ref hra, .int (nI df), .int (nI dn)])), (hra, .inl (cR, 64, .inr (.inr (.inr (.inr (fr))))))] [(cR, .object R_V)])) (va_Sq (fun r => r = some ha)) 0 0 (fun _ => False) := by
  refine Met.ofW (cc := prog_2_method_5_code) (maxL := 2) (ret := (some (.object "TextKeeper$Revision"))) (by decide) rfl ?_
  intro p e s m args below meth c s₁ B hml hv
  obtain ⟨rfl, hP, hK, hN⟩ := hv
  have hx := B.exec
  have hb := B.bytes
  have hr := B.returns
  have hts := atoms_spec (ws := k_D_keptAt) B.pre
  have hw0 : ∀ w ∈ w0, w.before _ s = true := fun w h => hts w (List.mem_cons_of_mem _ h)
  have hown : s.vm.findClass R_D = some m.cls := findClass_of_methodNamed B.named
  have hlocks := B.notSynchronized
  have hP : va_P (dC, dI) vwCl [(hdo, .inr (5, [.ref hra, .int (nI df), .int (nI dn)])), (hra, .inl (cR, 64, .inr (.inr (.inr (.inr (fr))))))] s.heap := hP
  have hl := lv_entry ([.ref hdo, .int a1]) (n := 2) (Nat.le_of_ble_eq_true rfl)
  rw [lg_entry_eq]
  generalize (lg_sl ([.ref hdo, .int a1]) ++ List.replicate (2 - (lg_sl ([.ref hdo, .int a1])).length) Slot.unset).toArray = ls at hl ⊢
  have hl : lv_has ls 2 [(0, .ref hdo), (1, .int a1)] := hl
  refine lv_iload_n hx hb d_D_keptAt_0 rfl (lv_at hl 1 rfl) ?_
  refine lv_if_lt (tgt := 21) hx hb d_D_keptAt_1 (by decide) (fun c_1 => absurd hkS (by rw [atN, if_pos (Or.inl c_1)]; exact fun q => by cases q)) (fun c_1 => ?_)
  refine lv_iload_n hx hb d_D_keptAt_4 rfl (lv_at hl 1 rfl) ?_
  refine lv_aload_n hx hb d_D_keptAt_5 rfl (lv_at hl 0 rfl) ?_
  refine va_get (D := (dC, dI)) (ci := 5) (v := .int (nI dn)) (C := R_D) (T := F_D) (N := 3) hx hb hw0 in_D hown hK hP 0 rfl rfl 2 (by decide) (hw0 (.fieldLink R_D 21 "TextKeeper$Document" "count" "I") (List.mem_of_getElem? (i := 224) rfl)) (fun _ h9 => h9) rfl d_D_keptAt_6 ?_
  refine lv_icmp_ge (tgt := 21) hx hb d_D_keptAt_9 (by decide) (fun c_2 => absurd hkS (by rw [atN, if_pos (Or.inr c_2)]; exact fun q => by cases q)) (fun c_2 => ?_)
  refine lv_aload_n hx hb d_D_keptAt_12 rfl (lv_at hl 0 rfl) ?_
  refine va_get (D := (dC, dI)) (ci := 5) (v := .ref hra) (C := R_D) (T := F_D) (N := 3) hx hb hw0 in_D hown hK hP 0 rfl rfl 0 (by decide) (hw0 (.fieldLink R_D 11 "TextKeeper$Document" "revisions" "[LTextKeeper$Revision;") (List.mem_of_getElem? (i := 222) rfl)) (fun _ h9 => h9) rfl d_D_keptAt_13 ?_
  refine lv_iload_n hx hb d_D_keptAt_16 rfl (lv_at hl 1 rfl) ?_
  refine va_aldq hx hb hK hP 1 0 rfl rfl (x_inK hdn (by decide) c_1 c_2) d_D_keptAt_17 ?_
  refine W.eq (g2 := F0 m 18 ls [.ref ha]) (by rw [show (fr) (Int32.toNatClampNeg a1) = some ha from (by have h9 := hkS; rw [atN, if_neg (fun q => q.elim c_1 c_2)] at h9; exact h9)]; rfl) ?_
  refine lv_goto (tgt := 22) hx hb d_D_keptAt_18 (by decide) ?_
  exact W.aret (v := .ref ha) hx hb hr (Or.inl ⟨_, rfl⟩) (Or.inr ⟨_, rfl⟩) (fun t ht hW => ⟨(some ha), rfl, rfl, ht⟩) (fun q h => by cases h) d_D_keptAt_22
set_option maxHeartbeats 4000000 in
set_option maxRecDepth 100000 in
theorem g_add (l : Launch) (dC : Nat → ClassId) (dI : Nat → Nat → Nat) (sz : Nat) (hdo : Nat) (hra : Nat) (cR : ClassId) (df : Nat) (dn : Nat) (fr : Nat → Option Nat) (hv : Nat) (v_piece : Value) (i_author : Int32) (i_sum : Int32) (hdn : dn < 64) : Met l y_D_add k_D_add ({ frames := 0, cells := 0, slots := 0, locals := 0 } : Room) (va_Pc [.ref hdo, .ref hv] (pc_E (dC, dI) [(hdo, .inr (5, [.ref hra, .int (nI df), .int (nI dn)])), (hra, .inl (cR, 64, .inr (.inr (.inr (.inr (fr)))))), (hv, .inr (6, [v_piece, .int i_author, .int i_sum]))] [(cR, .object R_V)] sz)) (va_Qv (fun (_ : Unit) => True) (fun (_ : Unit) t => at_E (dC, dI) (va_A [(hdo, .inr (5, [.ref hra, .int (nI df), .int (nI dn)])), (hra, .inl (cR, 64, .inr (.inr (.inr (.inr (fr)))))), (hv, .inr (6, [v_piece, .int i_author, .int i_sum]))] sz) [(hdo, .inr (5, [.ref hra, .int (nI df), .int (nI (dn + 1))])), (hra, .inl (cR, 64, .inr (.inr (.inr (.inr ((va_up fr dn (some hv)))))))), (hv, .inr (6, [v_piece, .int i_author, .int i_sum]))] [(cR, .object R_V)] t) (va_A [(hdo, .inr (5, [.ref hra, .int (nI df), .int (nI dn)])), (hra, .inl (cR, 64, .inr (.inr (.inr (.inr (fr)))))), (hv, .inr (6, [v_piece, .int i_author, .int i_sum]))] sz)) 0 0 (va_A [(hdo, .inr (5, [.ref hra, .int (nI df), .int (nI dn)])), (hra, .inl (cR, 64, .inr (.inr (.inr (.inr (fr)))))), (hv, .inr (6, [v_piece, .int i_author, .int i_sum]))] sz) := by
  refine Met.ofW (cc := prog_2_method_6_code) (maxL := 2) (ret := none) (by decide) rfl ?_
  intro p e s m args below meth c s₁ B hml hv
  obtain ⟨rfl, hsz, hP, hK, hD0, hN⟩ := hv
  have hx := B.exec
  have hb := B.bytes
  have hr := B.returns
  have hts := atoms_spec (ws := k_D_add) B.pre
  have hw0 : ∀ w ∈ w0, w.before _ s = true := fun w h => hts w (List.mem_cons_of_mem _ h)
  have hown : s.vm.findClass R_D = some m.cls := findClass_of_methodNamed B.named
  have hlocks := B.notSynchronized
  subst hsz
  have hD := hD0.self (sz := s.heap.size)
  generalize hAe : va_A [(hdo, .inr (5, [.ref hra, .int (nI df), .int (nI dn)])), (hra, .inl (cR, 64, .inr (.inr (.inr (.inr (fr)))))), (hv, .inr (6, [v_piece, .int i_author, .int i_sum]))] s.heap.size = A at hD ⊢
  have hA : ∀ q : Nat, s.heap.size ≤ q → A q := fun q h => by rw [← hAe]; exact Or.inr h
  have hS : va_S A s.heap s.heap [] := va_S.rf
  have hP : va_P (dC, dI) vwCl [(hdo, .inr (5, [.ref hra, .int (nI df), .int (nI dn)])), (hra, .inl (cR, 64, .inr (.inr (.inr (.inr (fr)))))), (hv, .inr (6, [v_piece, .int i_author, .int i_sum]))] s.heap := hP
  have hl := lv_entry ([.ref hdo, .ref hv]) (n := 2) (Nat.le_of_ble_eq_true rfl)
  rw [lg_entry_eq]
  generalize (lg_sl ([.ref hdo, .ref hv]) ++ List.replicate (2 - (lg_sl ([.ref hdo, .ref hv])).length) Slot.unset).toArray = ls at hl ⊢
  have hl : lv_has ls 2 [(0, .ref hdo), (1, .ref hv)] := hl
  refine lv_aload_n hx hb d_D_add_0 rfl (lv_at hl 0 rfl) ?_
  refine va_get (D := (dC, dI)) (ci := 5) (v := .int (nI dn)) (C := R_D) (T := F_D) (N := 3) hx hb hw0 in_D hown hK hP 0 rfl rfl 2 (by decide) (hw0 (.fieldLink R_D 21 "TextKeeper$Document" "count" "I") (List.mem_of_getElem? (i := 224) rfl)) (fun _ h9 => h9) rfl d_D_add_1 ?_
  refine lv_bipush (v := 64) hx hb d_D_add_4 (by decide +kernel) ?_
  refine lv_icmp_ge (tgt := 29) hx hb d_D_add_6 (by decide) (fun c_1 => absurd c_1 (nI_ge hdn (by decide))) (fun c_1 => ?_)
  refine lv_aload_n hx hb d_D_add_9 rfl (lv_at hl 0 rfl) ?_
  refine va_get (D := (dC, dI)) (ci := 5) (v := .ref hra) (C := R_D) (T := F_D) (N := 3) hx hb hw0 in_D hown hK hP 0 rfl rfl 0 (by decide) (hw0 (.fieldLink R_D 11 "TextKeeper$Document" "revisions" "[LTextKeeper$Revision;") (List.mem_of_getElem? (i := 222) rfl)) (fun _ h9 => h9) rfl d_D_add_10 ?_
  refine lv_aload_n hx hb d_D_add_13 rfl (lv_at hl 0 rfl) ?_
  refine va_get (D := (dC, dI)) (ci := 5) (v := .int (nI dn)) (C := R_D) (T := F_D) (N := 3) hx hb hw0 in_D hown hK hP 0 rfl rfl 2 (by decide) (hw0 (.fieldLink R_D 21 "TextKeeper$Document" "count" "I") (List.mem_of_getElem? (i := 224) rfl)) (fun _ h9 => h9) rfl d_D_add_14 ?_
  refine lv_aload_n hx hb d_D_add_17 rfl (lv_at hl 1 rfl) ?_
  refine va_astq hx hb hK hP hD hS 1 0 2 6 rfl rfl rfl rfl (vp_in_nI hdn (by decide)) d_D_add_18 (fun H locs hP hD hS => ?_)
  replace hP : va_P (dC, dI) vwCl [(hdo, .inr (5, [.ref hra, .int (nI df), .int (nI dn)])), (hra, .inl (cR, 64, .inr (.inr (.inr (.inr (va_up (fr) (Int32.toNatClampNeg (nI dn)) (some hv))))))), (hv, .inr (6, [v_piece, .int i_author, .int i_sum]))] H := hP
  replace hD : va_D A [(hdo, .inr (5, [.ref hra, .int (nI df), .int (nI dn)])), (hra, .inl (cR, 64, .inr (.inr (.inr (.inr (va_up (fr) (Int32.toNatClampNeg (nI dn)) (some hv))))))), (hv, .inr (6, [v_piece, .int i_author, .int i_sum]))] := hD
  have eS : va_up (fr) (Int32.toNatClampNeg (nI dn)) (some hv) = va_up fr dn (some hv) := by rw [nI_clamp (by omega)]
  rw [eS] at hP hD
  refine lv_aload_n hx hb d_D_add_19 rfl (lv_at hl 0 rfl) ?_
  refine lv_dup hx hb d_D_add_20 rfl ?_
  refine va_get (D := (dC, dI)) (ci := 5) (v := .int (nI dn)) (C := R_D) (T := F_D) (N := 3) hx hb hw0 in_D hown hK hP 0 rfl rfl 2 (by decide) (hw0 (.fieldLink R_D 21 "TextKeeper$Document" "count" "I") (List.mem_of_getElem? (i := 224) rfl)) (fun _ h9 => h9) rfl d_D_add_21 ?_
  refine lv_iconst (v := 1) hx hb d_D_add_24 (by decide) ?_
  refine lv_iadd hx hb d_D_add_25 ?_
  refine lv_topi (fun x_2 ex_2 => ?_)
  obtain rfl : x_2 = (nI (dn + 1)) := by rw [ex_2]; exact nI_1 dn
  clear ex_2
  refine va_put (D := (dC, dI)) (ci := 5) (v := .int (nI (dn + 1))) (ty := .int) (C := R_D) (T := F_D) (N := 3) hx hb hw0 in_D ft_D tk_D nk_D hown hK hP hD hS 0 rfl rfl 2 (by decide) (hw0 (.fieldLink R_D 21 "TextKeeper$Document" "count" "I") (List.mem_of_getElem? (i := 224) rfl)) (fun _ h9 => h9) rfl (by decide +kernel) rfl rfl (Nat.le_of_ble_eq_true rfl) d_D_add_26 (fun H locs hP hD hS => ?_)
  replace hP : va_P (dC, dI) vwCl [(hdo, .inr (5, [.ref hra, .int (nI df), .int (nI (dn + 1))])), (hra, .inl (cR, 64, .inr (.inr (.inr (.inr ((va_up fr dn (some hv)))))))), (hv, .inr (6, [v_piece, .int i_author, .int i_sum]))] H := hP
  replace hD : va_D A [(hdo, .inr (5, [.ref hra, .int (nI df), .int (nI (dn + 1))])), (hra, .inl (cR, 64, .inr (.inr (.inr (.inr ((va_up fr dn (some hv)))))))), (hv, .inr (6, [v_piece, .int i_author, .int i_sum]))] := hD
  have hP9 := hP.sub (ws' := [(hdo, .inr (5, [.ref hra, .int (nI df), .int (nI (dn + 1))])), (hra, .inl (cR, 64, .inr (.inr (.inr (.inr ((va_up fr dn (some hv)))))))), (hv, .inr (6, [v_piece, .int i_author, .int i_sum]))]) [0, 1, 2] rfl
  have hD9 := hD.sub (ws' := [(hdo, .inr (5, [.ref hra, .int (nI df), .int (nI (dn + 1))])), (hra, .inl (cR, 64, .inr (.inr (.inr (.inr ((va_up fr dn (some hv)))))))), (hv, .inr (6, [v_piece, .int i_author, .int i_sum]))]) [0, 1, 2] (by decide) rfl
  have hK9 := hK.sub (tys' := [(cR, .object R_V)]) [0] rfl
  exact W.vret hx hb hr (fun t ht hW => ⟨⟨(), rfl, trivial, by rw [ht]; exact hP9, va_K.moved hW.alike hK9, hD9⟩, hS.F ht⟩) hS.2.2 d_D_add_29
set_option maxHeartbeats 4000000 in
set_option maxRecDepth 100000 in
theorem lq_cut {p : Program} {l : Launch} {e : Env} {s : State} {m : MethodId} {args : Array Value} {below : List Frame} {meth : Method} {c : Code} {dC : Nat → ClassId} {dI : Nat → Nat → Nat} {A : Nat → Prop} {Q : State → Prop} (hdo : Nat) (hra : Nat) (cR : ClassId) (dn : Nat) (fr : Nat → Option Nat) (nf : Nat) (hnf : nf < 64)
    (hx : p.tables.exec = Jvm.exec) (hb : c.code = prog_2_method_7_code) (hml : c.maxLocals = 4) (hown : s.vm.findClass R_D = some m.cls) (hw0 : ∀ w ∈ w0, w.before args s = true) (hN : nw_ok s) (hK : va_K (dC, dI) vwCl [(cR, .object R_V)] s) (hA : ∀ q : Nat, s.heap.size ≤ q → A q)
    (kk : ∀ (H : Heap) (locs : List Loc), va_P (dC, dI) vwCl [(hdo, .inr (5, [.ref hra, .int (nI nf), .int (nI dn)])), (hra, .inl (cR, 64, .inr (.inr (.inr (.inr ((cutA nf fr (nf - nf))))))))] H → va_D A [(hdo, .inr (5, [.ref hra, .int (nI nf), .int (nI dn)])), (hra, .inl (cR, 64, .inr (.inr (.inr (.inr ((cutA nf fr (nf - nf))))))))] → va_S A s.heap H locs → ∀ ls : Array Slot, lv_has ls 4 [(3, .int (nwI (nf - nf))), (2, .int (wkI nf (nf - nf))), (0, .ref hdo), (1, .int (nI nf))] → W p l e ({ frames := 1, cells := 0, slots := 0, locals := 32 } : Room) s m args below meth c H locs 0 0 Q (F0 m 44 ls [])) :
    ∀ (n j : Nat), j ≤ nf → nf < j + n → ∀ (H : Heap) (locs : List Loc), va_P (dC, dI) vwCl [(hdo, .inr (5, [.ref hra, .int (nI nf), .int (nI dn)])), (hra, .inl (cR, 64, .inr (.inr (.inr (.inr ((cutA nf fr (nf - j))))))))] H → va_D A [(hdo, .inr (5, [.ref hra, .int (nI nf), .int (nI dn)])), (hra, .inl (cR, 64, .inr (.inr (.inr (.inr ((cutA nf fr (nf - j))))))))] → va_S A s.heap H locs → ∀ ls : Array Slot, lv_has ls 4 [(3, .int (nwI (nf - j))), (2, .int (wkI nf (nf - j))), (0, .ref hdo), (1, .int (nI nf))] → W p l e ({ frames := 1, cells := 0, slots := 0, locals := 32 } : Room) s m args below meth c H locs 0 0 Q (F0 m 14 ls []) := by
  intro n
  induction n with
  | zero => intro j h1 h2; exact absurd h2 (by omega)
  | succ n ih =>
    intro j hj hn   H locs hP hD hS ls hl
    refine lv_iload_n hx hb d_D_cutBefore_14 rfl (lv_at hl 0 rfl) ?_
    refine lv_if_lt (tgt := 44) hx hb d_D_cutBefore_15 (by decide) (fun c_1 => ?_) (fun c_1 => ?_)
    · obtain rfl : j = nf := (by have h8 := c_1; rcases Nat.eq_zero_or_pos (nf - j) with z | z; omega; obtain ⟨k9, hk9⟩ : ∃ z, nf - j = z + 1 := ⟨nf - j - 1, by omega⟩; rw [hk9] at h8; exact absurd h8 (nI_pos (by omega)))
      exact kk _ _ hP hD hS ls (lv_sub hl [0, 1, 2, 3] rfl)
    · obtain ⟨k9, hk9⟩ : ∃ z, nf - j = z + 1 := ⟨nf - j - 1, by have h8 : ¬ nf - j = 0 := (fun z => c_1 (by rw [z]; decide)); omega⟩; have hlt : j < nf := (by omega); have ek9 : nwI (nf - j) = nI k9 := (by rw [hk9]; rfl)
      refine lv_iload_n hx hb d_D_cutBefore_18 rfl (lv_at hl 0 rfl) ?_
      refine lv_iload_n hx hb d_D_cutBefore_19 rfl (lv_at hl 1 rfl) ?_
      refine lv_icmp_ne (tgt := 31) hx hb d_D_cutBefore_20 (by decide) (fun c_2 => ?_) (fun c_2 => ?_)
      · refine lv_aload_n hx hb d_D_cutBefore_31 rfl (lv_at hl 2 rfl) ?_
        refine va_get (D := (dC, dI)) (ci := 5) (v := .ref hra) (C := R_D) (T := F_D) (N := 3) hx hb hw0 in_D hown hK hP 0 rfl rfl 0 (by decide) (hw0 (.fieldLink R_D 11 "TextKeeper$Document" "revisions" "[LTextKeeper$Revision;") (List.mem_of_getElem? (i := 222) rfl)) (fun _ h9 => h9) rfl d_D_cutBefore_32 ?_
        refine lv_iload_n hx hb d_D_cutBefore_35 rfl (lv_at hl 0 rfl) ?_
        refine lv_null hx hb d_D_cutBefore_36 ?_
        refine va_astqN hx hb hK hP hD hS 1 0 rfl rfl (by rw [ek9]; exact vp_in_nI (by omega) (by decide)) d_D_cutBefore_37 (fun H locs hP hD hS => ?_)
        replace hP : va_P (dC, dI) vwCl [(hdo, .inr (5, [.ref hra, .int (nI nf), .int (nI dn)])), (hra, .inl (cR, 64, .inr (.inr (.inr (.inr (va_up ((cutA nf fr (nf - j))) (Int32.toNatClampNeg (nwI (nf - j))) none))))))] H := hP
        replace hD : va_D A [(hdo, .inr (5, [.ref hra, .int (nI nf), .int (nI dn)])), (hra, .inl (cR, 64, .inr (.inr (.inr (.inr (va_up ((cutA nf fr (nf - j))) (Int32.toNatClampNeg (nwI (nf - j))) none))))))] := hD
        have eS : va_up ((cutA nf fr (nf - j))) (Int32.toNatClampNeg (nwI (nf - j))) none = cutA nf fr (nf - (j + 1)) := by rw [ek9, nI_clamp (by omega), show nf - (j + 1) = k9 by omega]; exact cut_no hk9 (by omega) (fun q => c_2 (by rw [ek9, hk9]; exact wk_eq q))
        rw [eS] at hP hD
        obtain ⟨x_3, ex_3⟩ : ∃ y : Int32, y = (nwI (nf - j)) + (-1) := ⟨_, rfl⟩
        refine lv_iinc (v := x_3) (lv' := [(3, .int x_3), (2, .int (wkI nf (nf - j))), (0, .ref hdo), (1, .int (nI nf))]) hx hb d_D_cutBefore_38 hl (k := 0) rfl (by rw [ex_3]; rfl) (by decide) rfl (fun ls hl => ?_)
        refine lv_goto (tgt := 14) hx hb d_D_cutBefore_41 (by decide) ?_
        have e3 : x_3 = nwI (nf - (j + 1)) := by rw [ex_3, ek9, show nf - (j + 1) = k9 by omega]; exact nwI_dec k9
        have e2 : (wkI nf (nf - j)) = wkI nf (nf - (j + 1)) := by rw [hk9, show nf - (j + 1) = k9 by omega]; exact wk_no hnf (by omega) (fun q => c_2 (by rw [ek9, hk9]; exact wk_eq q))
        exact ih (j + 1) hlt (by omega) _ _ hP hD hS ls (by rw [← e3, ← e2]; exact (lv_sub hl [0, 1, 2, 3] rfl))
      · refine lv_iload_n hx hb d_D_cutBefore_23 rfl (lv_at hl 1 rfl) ?_
        have hPc := hP.sub (ws' := []) [] rfl
        have hKc := hK.sub (tys' := []) [] rfl
        refine ps_i (va_runSN (As := [.int (wkI nf (nf - j))]) (rest := []) ⟨hx, hb, hml, hown, hw0⟩ (g_baseOf l dC dI (wkI nf (nf - j))) ⟨va_cnB 1 hw0 (gd_I 225 rfl) rfl rfl rfl (hN.1 (.methodLinkNest R_D 24 y_K_baseOf "TextKeeper") (List.mem_of_getElem? (i := 2) rfl)) (hw0 (.initialized R_K) (List.mem_of_getElem? (i := 226) rfl)) (by decide +kernel) ⟨by decide +kernel, by decide +kernel⟩, (hw0 (.static y_K_baseOf) (List.mem_of_getElem? (i := 227) rfl)), trivial⟩ (prS_R hPc hKc hN) rfl rfl hl.1 rfl (lv_room (Nat.le_of_ble_eq_true rfl)) d_D_cutBefore_24 ⟨by decide +kernel, by decide +kernel⟩) (fun r_4 hr_4 => ?_)
        obtain rfl : r_4 = ((wkI nf (nf - j)) &&& ((wkI nf (nf - j)) - 1)) := hr_4
        refine lv_istore_n (lv' := [(2, .int ((wkI nf (nf - j)) &&& ((wkI nf (nf - j)) - 1))), (3, .int (nwI (nf - j))), (0, .ref hdo), (1, .int (nI nf))]) hx hb d_D_cutBefore_27 rfl hl (by decide) rfl (fun ls hl => ?_)
        refine lv_goto (tgt := 38) hx hb d_D_cutBefore_28 (by decide) ?_
        obtain ⟨x_5, ex_5⟩ : ∃ y : Int32, y = (nwI (nf - j)) + (-1) := ⟨_, rfl⟩
        refine lv_iinc (v := x_5) (lv' := [(3, .int x_5), (2, .int ((wkI nf (nf - j)) &&& ((wkI nf (nf - j)) - 1))), (0, .ref hdo), (1, .int (nI nf))]) hx hb d_D_cutBefore_38 hl (k := 1) rfl (by rw [ex_5]; rfl) (by decide) rfl (fun ls hl => ?_)
        refine lv_goto (tgt := 14) hx hb d_D_cutBefore_41 (by decide) ?_
        have e3 : x_5 = nwI (nf - (j + 1)) := by rw [ex_5, ek9, show nf - (j + 1) = k9 by omega]; exact nwI_dec k9
        have e2 : ((wkI nf (nf - j)) &&& ((wkI nf (nf - j)) - 1)) = wkI nf (nf - (j + 1)) := by rw [hk9, show nf - (j + 1) = k9 by omega]; exact wk_yes hnf (by omega) (by have h9 := c_2; rw [ek9, hk9] at h9; exact h9)
        have eS : cutA nf fr (nf - j) = cutA nf fr (nf - (j + 1)) := by rw [hk9, show nf - (j + 1) = k9 by omega]; exact cut_yes (wk_eqv hnf (by omega) (by have h9 := c_2; rw [ek9, hk9] at h9; exact h9))
        rw [eS] at hP hD
        exact ih (j + 1) hlt (by omega) _ _ hP hD hS ls (by rw [← e3, ← e2]; exact (lv_sub hl [0, 1, 2, 3] rfl))
set_option maxHeartbeats 4000000 in
set_option maxRecDepth 100000 in
theorem g_cutBefore (l : Launch) (dC : Nat → ClassId) (dI : Nat → Nat → Nat) (sz : Nat) (hdo : Nat) (hra : Nat) (cR : ClassId) (df : Nat) (dn : Nat) (fr : Nat → Option Nat) (nf : Nat) (hnf : nf < 64) : Met l y_D_cutBefore k_D_cutBefore ({ frames := 1, cells := 0, slots := 0, locals := 32 } : Room) (va_Pc [.ref hdo, .int (nI nf)] (pc_E (dC, dI) [(hdo, .inr (5, [.ref hra, .int (nI df), .int (nI dn)])), (hra, .inl (cR, 64, .inr (.inr (.inr (.inr (fr))))))] [(cR, .object R_V)] sz)) (va_Qv (fun (_ : Unit) => True) (fun (_ : Unit) t => at_E (dC, dI) (va_A [(hdo, .inr (5, [.ref hra, .int (nI df), .int (nI dn)])), (hra, .inl (cR, 64, .inr (.inr (.inr (.inr (fr))))))] sz) [(hdo, .inr (5, [.ref hra, .int (nI nf), .int (nI dn)])), (hra, .inl (cR, 64, .inr (.inr (.inr (.inr ((cutA nf fr 0)))))))] [(cR, .object R_V)] t) (va_A [(hdo, .inr (5, [.ref hra, .int (nI df), .int (nI dn)])), (hra, .inl (cR, 64, .inr (.inr (.inr (.inr (fr))))))] sz)) 0 0 (va_A [(hdo, .inr (5, [.ref hra, .int (nI df), .int (nI dn)])), (hra, .inl (cR, 64, .inr (.inr (.inr (.inr (fr))))))] sz) := by
  refine Met.ofW (cc := prog_2_method_7_code) (maxL := 4) (ret := none) (by decide) rfl ?_
  intro p e s m args below meth c s₁ B hml hv
  obtain ⟨rfl, hsz, hP, hK, hD0, hN⟩ := hv
  have hx := B.exec
  have hb := B.bytes
  have hr := B.returns
  have hts := atoms_spec (ws := k_D_cutBefore) B.pre
  have hw0 : ∀ w ∈ w0, w.before _ s = true := fun w h => hts w (List.mem_cons_of_mem _ h)
  have hown : s.vm.findClass R_D = some m.cls := findClass_of_methodNamed B.named
  have hlocks := B.notSynchronized
  subst hsz
  have hD := hD0.self (sz := s.heap.size)
  generalize hAe : va_A [(hdo, .inr (5, [.ref hra, .int (nI df), .int (nI dn)])), (hra, .inl (cR, 64, .inr (.inr (.inr (.inr (fr))))))] s.heap.size = A at hD ⊢
  have hA : ∀ q : Nat, s.heap.size ≤ q → A q := fun q h => by rw [← hAe]; exact Or.inr h
  have hS : va_S A s.heap s.heap [] := va_S.rf
  have hP : va_P (dC, dI) vwCl [(hdo, .inr (5, [.ref hra, .int (nI df), .int (nI dn)])), (hra, .inl (cR, 64, .inr (.inr (.inr (.inr (fr))))))] s.heap := hP
  have hl := lv_entry ([.ref hdo, .int (nI nf)]) (n := 4) (Nat.le_of_ble_eq_true rfl)
  rw [lg_entry_eq]
  generalize (lg_sl ([.ref hdo, .int (nI nf)]) ++ List.replicate (4 - (lg_sl ([.ref hdo, .int (nI nf)])).length) Slot.unset).toArray = ls at hl ⊢
  have hl : lv_has ls 4 [(0, .ref hdo), (1, .int (nI nf))] := hl
  refine lv_aload_n hx hb d_D_cutBefore_0 rfl (lv_at hl 0 rfl) ?_
  refine lv_iload_n hx hb d_D_cutBefore_1 rfl (lv_at hl 1 rfl) ?_
  refine va_put (D := (dC, dI)) (ci := 5) (v := .int (nI nf)) (ty := .int) (C := R_D) (T := F_D) (N := 3) hx hb hw0 in_D ft_D tk_D nk_D hown hK hP hD hS 0 rfl rfl 1 (by decide) (hw0 (.fieldLink R_D 17 "TextKeeper$Document" "first" "I") (List.mem_of_getElem? (i := 223) rfl)) (fun _ h9 => h9) rfl (by decide +kernel) rfl rfl (Nat.le_of_ble_eq_true rfl) d_D_cutBefore_2 (fun H locs hP hD hS => ?_)
  replace hP : va_P (dC, dI) vwCl [(hdo, .inr (5, [.ref hra, .int (nI nf), .int (nI dn)])), (hra, .inl (cR, 64, .inr (.inr (.inr (.inr (fr))))))] H := hP
  replace hD : va_D A [(hdo, .inr (5, [.ref hra, .int (nI nf), .int (nI dn)])), (hra, .inl (cR, 64, .inr (.inr (.inr (.inr (fr))))))] := hD
  refine lv_iload_n hx hb d_D_cutBefore_5 rfl (lv_at hl 1 rfl) ?_
  have hPc := hP.sub (ws' := []) [] rfl
  have hKc := hK.sub (tys' := []) [] rfl
  refine ps_i (va_runSN (As := [.int (nI nf)]) (rest := []) ⟨hx, hb, hml, hown, hw0⟩ (g_baseOf l dC dI (nI nf)) ⟨va_cnB 1 hw0 (gd_I 225 rfl) rfl rfl rfl (hN.1 (.methodLinkNest R_D 24 y_K_baseOf "TextKeeper") (List.mem_of_getElem? (i := 2) rfl)) (hw0 (.initialized R_K) (List.mem_of_getElem? (i := 226) rfl)) (by decide +kernel) ⟨by decide +kernel, by decide +kernel⟩, (hw0 (.static y_K_baseOf) (List.mem_of_getElem? (i := 227) rfl)), trivial⟩ (prS_R hPc hKc hN) rfl rfl hl.1 rfl (lv_room (Nat.le_of_ble_eq_true rfl)) d_D_cutBefore_6 ⟨by decide +kernel, by decide +kernel⟩) (fun r_1 hr_1 => ?_)
  obtain rfl : r_1 = ((nI nf) &&& ((nI nf) - 1)) := hr_1
  refine lv_istore_n (lv' := [(2, .int ((nI nf) &&& ((nI nf) - 1))), (0, .ref hdo), (1, .int (nI nf))]) hx hb d_D_cutBefore_9 rfl hl (by decide) rfl (fun ls hl => ?_)
  refine lv_iload_n hx hb d_D_cutBefore_10 rfl (lv_at hl 2 rfl) ?_
  refine lv_iconst (v := 1) hx hb d_D_cutBefore_11 (by decide) ?_
  refine lv_isub hx hb d_D_cutBefore_12 ?_
  refine lv_topi (fun x_2 ex_2 => ?_)
  refine lv_istore_n (lv' := [(3, .int x_2), (2, .int ((nI nf) &&& ((nI nf) - 1))), (0, .ref hdo), (1, .int (nI nf))]) hx hb d_D_cutBefore_13 rfl hl (by decide) rfl (fun ls hl => ?_)
  have e3 : x_2 = nwI (nf - 0) := by rw [ex_2]; exact nwI_dec1 nf
  have e2 : ((nI nf) &&& ((nI nf) - 1)) = wkI nf (nf - 0) := wk_start hnf
  have eS : fr = cutA nf fr (nf - 0) := (cut_start fr).symm
  rw [eS] at hP hD
  refine lq_cut hdo hra cR dn fr nf hnf hx hb hml hown hw0 hN hK hA (fun H locs hP hD hS ls hl => ?_) (nf + 1) 0 (by omega) (by omega) _ _ hP hD hS ls (by rw [← e3, ← e2]; exact (lv_sub hl [0, 1, 2, 3] rfl))
  have hl := lv_sub hl [2] rfl
  have hl : lv_has ls 4 [(0, .ref hdo)] := hl
  rw [Nat.sub_self] at hP hD
  have hP9 := hP.sub (ws' := [(hdo, .inr (5, [.ref hra, .int (nI nf), .int (nI dn)])), (hra, .inl (cR, 64, .inr (.inr (.inr (.inr ((cutA nf fr 0)))))))]) [0, 1] rfl
  have hD9 := hD.sub (ws' := [(hdo, .inr (5, [.ref hra, .int (nI nf), .int (nI dn)])), (hra, .inl (cR, 64, .inr (.inr (.inr (.inr ((cutA nf fr 0)))))))]) [0, 1] (by decide) rfl
  have hK9 := hK.sub (tys' := [(cR, .object R_V)]) [0] rfl
  exact W.vret hx hb hr (fun t ht hW => ⟨⟨(), rfl, trivial, by rw [ht]; exact hP9, va_K.moved hW.alike hK9, hD9⟩, hS.F ht⟩) hS.2.2 d_D_cutBefore_44
set_option maxHeartbeats 4000000 in
set_option maxRecDepth 100000 in
theorem lq_cbk {p : Program} {l : Launch} {e : Env} {s : State} {m : MethodId} {args : Array Value} {below : List Frame} {meth : Method} {c : Code} {dC : Nat → ClassId} {dI : Nat → Nat → Nat} {Q : State → Prop} {H : Heap} {locs : List Loc} (hdo : Nat) (hra : Nat) (cR : ClassId) (df : Nat) (dn : Nat) (cB : ClassId) (rv : Nat → Option Rc) (pl : va_W) (hdn : dn ≤ 64) (hpl : plR cB rv pl) (hok : rvOk rv)
    (hx : p.tables.exec = Jvm.exec) (hb : c.code = prog_2_method_8_code) (hml : c.maxLocals = 3) (hown : s.vm.findClass R_D = some m.cls) (hw0 : ∀ w ∈ w0, w.before args s = true) (hN : nw_ok s) (hK : va_K (dC, dI) vwCl [(cR, .object R_V), (cB, .byte)] s) (hP : va_P (dC, dI) vwCl (([(hdo, .inr (5, [.ref hra, .int (nI df), .int (nI dn)])), (hra, .inl (cR, 64, .inr (.inr (.inr (.inr ((rvA rv)))))))] : va_W) ++ pl) H)
    (kk : ∀ ls : Array Slot, lv_has ls 3 [(2, .int (nI dn)), (1, .int (nI (cbk (rvP rv) dn))), (0, .ref hdo)] → W p l e ({ frames := 1, cells := 0, slots := 0, locals := 20 } : Room) s m args below meth c H locs 0 0 Q (F0 m 43 ls [])) :
    ∀ (n j : Nat), j ≤ dn → dn < j + n → ∀ ls : Array Slot, lv_has ls 3 [(2, .int (nI j)), (1, .int (nI (cbk (rvP rv) j))), (0, .ref hdo)] → W p l e ({ frames := 1, cells := 0, slots := 0, locals := 20 } : Room) s m args below meth c H locs 0 0 Q (F0 m 4 ls []) := by
  intro n
  induction n with
  | zero => intro j  h1 h2; exact absurd h2 (by omega)
  | succ n ih =>
    intro j  hj hn  ls hl
    refine lv_iload_n hx hb d_D_countBlocks_4 rfl (lv_at hl 0 rfl) ?_
    refine lv_aload_n hx hb d_D_countBlocks_5 rfl (lv_at hl 2 rfl) ?_
    refine va_get (D := (dC, dI)) (ci := 5) (v := .int (nI dn)) (C := R_D) (T := F_D) (N := 3) hx hb hw0 in_D hown hK hP 0 rfl rfl 2 (by decide) (hw0 (.fieldLink R_D 21 "TextKeeper$Document" "count" "I") (List.mem_of_getElem? (i := 224) rfl)) (fun _ h9 => h9) rfl d_D_countBlocks_6 ?_
    refine lv_icmp_ge (tgt := 43) hx hb d_D_countBlocks_9 (by decide) (fun c_1 => ?_) (fun c_1 => ?_)
    · obtain rfl : j = dn := x_geN (by omega) hj c_1
      exact kk ls (lv_sub hl [0, 1, 2] rfl)
    · have hlt : j < dn := x_ltN (by omega) hj c_1
      rcases hq9 : rv j with _ | ⟨a9, pa9, np9, fp9, S9, au9, sm9⟩
      · have hn9 := rvA_n hq9
        refine lv_aload_n hx hb d_D_countBlocks_12 rfl (lv_at hl 2 rfl) ?_
        refine va_get (D := (dC, dI)) (ci := 5) (v := .ref hra) (C := R_D) (T := F_D) (N := 3) hx hb hw0 in_D hown hK hP 0 rfl rfl 0 (by decide) (hw0 (.fieldLink R_D 11 "TextKeeper$Document" "revisions" "[LTextKeeper$Revision;") (List.mem_of_getElem? (i := 222) rfl)) (fun _ h9 => h9) rfl d_D_countBlocks_13 ?_
        refine lv_iload_n hx hb d_D_countBlocks_16 rfl (lv_at hl 0 rfl) ?_
        refine va_aldq hx hb hK hP 1 0 rfl rfl (vp_in_nI (by omega) (by decide)) d_D_countBlocks_17 ?_
        refine W.eq (g2 := F0 m 18 ls [.null]) (by rw [show ((rvA rv)) (Int32.toNatClampNeg (nI j)) = none from (by rw [nI_clamp (by omega)]; exact hn9)]; rfl) ?_
        refine lv_ifnullN (tgt := 37) hx hb d_D_countBlocks_18 (by decide) ?_
        refine lv_iinc (v := nI (j + 1)) (lv' := [(2, .int (nI (j + 1))), (1, .int (nI (cbk (rvP rv) j))), (0, .ref hdo)]) hx hb d_D_countBlocks_37 hl (k := 0) rfl (nI_1 j) (by decide) rfl (fun ls hl => ?_)
        refine lv_goto (tgt := 4) hx hb d_D_countBlocks_40 (by decide) ?_
        exact ih (j + 1) hlt (by omega) ls (by rw [cbk_n (rvP_n hq9)]; exact (lv_sub hl [0, 1, 2] rfl))
      · have hn9 := rvA_s hq9
        obtain ⟨pl9, hp9⟩ := hpl j _ (by omega) hq9
        have hP := hP.perm (pl_take hp9)
        replace hP : va_P (dC, dI) vwCl (([(hdo, .inr (5, [.ref hra, .int (nI df), .int (nI dn)])), (hra, .inl (cR, 64, .inr (.inr (.inr (.inr ((rvA rv))))))), (a9, .inr (6, [.ref pa9, .int au9, .int sm9])), (pa9, .inl (cB, np9, .inl (fp9)))] : va_W) ++ pl9) H := hP
        have ho9 := hok j _ hq9
        have hnp9 : np9 ≤ 1024 := ho9.2
        refine lv_aload_n hx hb d_D_countBlocks_12 rfl (lv_at hl 2 rfl) ?_
        refine va_get (D := (dC, dI)) (ci := 5) (v := .ref hra) (C := R_D) (T := F_D) (N := 3) hx hb hw0 in_D hown hK hP 0 rfl rfl 0 (by decide) (hw0 (.fieldLink R_D 11 "TextKeeper$Document" "revisions" "[LTextKeeper$Revision;") (List.mem_of_getElem? (i := 222) rfl)) (fun _ h9 => h9) rfl d_D_countBlocks_13 ?_
        refine lv_iload_n hx hb d_D_countBlocks_16 rfl (lv_at hl 0 rfl) ?_
        refine va_aldq hx hb hK hP 1 0 rfl rfl (vp_in_nI (by omega) (by decide)) d_D_countBlocks_17 ?_
        refine W.eq (g2 := F0 m 18 ls [.ref a9]) (by rw [show ((rvA rv)) (Int32.toNatClampNeg (nI j)) = some a9 from (by rw [nI_clamp (by omega)]; exact hn9)]; rfl) ?_
        refine lv_ifnull hx hb d_D_countBlocks_18 ?_
        refine lv_iload_n hx hb d_D_countBlocks_21 rfl (lv_at hl 1 rfl) ?_
        refine lv_aload_n hx hb d_D_countBlocks_22 rfl (lv_at hl 2 rfl) ?_
        refine va_get (D := (dC, dI)) (ci := 5) (v := .ref hra) (C := R_D) (T := F_D) (N := 3) hx hb hw0 in_D hown hK hP 0 rfl rfl 0 (by decide) (hw0 (.fieldLink R_D 11 "TextKeeper$Document" "revisions" "[LTextKeeper$Revision;") (List.mem_of_getElem? (i := 222) rfl)) (fun _ h9 => h9) rfl d_D_countBlocks_23 ?_
        refine lv_iload_n hx hb d_D_countBlocks_26 rfl (lv_at hl 0 rfl) ?_
        refine va_aldq hx hb hK hP 1 0 rfl rfl (vp_in_nI (by omega) (by decide)) d_D_countBlocks_27 ?_
        refine W.eq (g2 := F0 m 28 ls [.ref a9, .int (nI (cbk (rvP rv) j))]) (by rw [show ((rvA rv)) (Int32.toNatClampNeg (nI j)) = some a9 from (by rw [nI_clamp (by omega)]; exact hn9)]; rfl) ?_
        refine va_getN (D := (dC, dI)) (ci := 6) (v := .ref pa9) (C := R_V) (T := F_V) (N := 3) hx hb hw0 in_V hown hK hP 2 rfl rfl 0 (by decide) (va_Nw.use rfl (hN.1 (.fieldLinkNest R_D 28 "TextKeeper$Revision" "piece" "[B" "TextKeeper") (List.mem_of_getElem? (i := 3) rfl))) (fun _ h9 => h9) rfl d_D_countBlocks_28 ?_
        refine va_alen (v := nI np9) hx hb hK hP 3 1 rfl rfl (rfl) d_D_countBlocks_31 ?_
        have hPc := hP.sub (ws' := []) [] rfl
        have hKc := hK.sub (tys' := []) [] rfl
        refine ps_i (va_runSN (As := [.int (nI np9)]) (rest := [.int (nI (cbk (rvP rv) j))]) ⟨hx, hb, hml, hown, hw0⟩ (g_blocksFor l dC dI np9 (by first | assumption | decide | omega)) ⟨va_cnB 1 hw0 (gd_I 228 rfl) rfl rfl rfl (hN.1 (.methodLinkNest R_D 32 y_K_blocksFor "TextKeeper") (List.mem_of_getElem? (i := 4) rfl)) (hw0 (.initialized R_K) (List.mem_of_getElem? (i := 226) rfl)) (by decide +kernel) ⟨by decide +kernel, by decide +kernel⟩, (hw0 (.static y_K_blocksFor) (List.mem_of_getElem? (i := 229) rfl)), trivial⟩ (prS_R hPc hKc hN) rfl rfl hl.1 rfl (lv_room (Nat.le_of_ble_eq_true rfl)) d_D_countBlocks_32 ⟨by decide +kernel, by decide +kernel⟩) (fun r_2 hr_2 => ?_)
        obtain rfl : r_2 = (nI ((np9 + 31) / 32)) := hr_2
        refine lv_iadd hx hb d_D_countBlocks_35 ?_
        refine lv_topi (fun x_3 ex_3 => ?_)
        obtain rfl : x_3 = (nI (cbk (rvP rv) j + blk np9)) := by rw [ex_3]; exact nI_add _ _
        clear ex_3
        refine lv_istore_n (lv' := [(1, .int (nI (cbk (rvP rv) j + blk np9))), (2, .int (nI j)), (0, .ref hdo)]) hx hb d_D_countBlocks_36 rfl hl (by decide) rfl (fun ls hl => ?_)
        refine lv_iinc (v := nI (j + 1)) (lv' := [(2, .int (nI (j + 1))), (1, .int (nI (cbk (rvP rv) j + blk np9))), (0, .ref hdo)]) hx hb d_D_countBlocks_37 hl (k := 1) rfl (nI_1 j) (by decide) rfl (fun ls hl => ?_)
        refine lv_goto (tgt := 4) hx hb d_D_countBlocks_40 (by decide) ?_
        exact ih (j + 1) hlt (by omega) ls (by rw [cbk_s (rvP_s hq9), show List.length (Rc.S (a9, pa9, np9, fp9, S9, au9, sm9)) = np9 from ho9.1.1]; exact (lv_sub hl [0, 1, 2] rfl))
set_option maxHeartbeats 4000000 in
set_option maxRecDepth 100000 in
theorem g_countBlocks (l : Launch) (dC : Nat → ClassId) (dI : Nat → Nat → Nat) (hdo : Nat) (hra : Nat) (cR : ClassId) (df : Nat) (dn : Nat) (cB : ClassId) (rv : Nat → Option Rc) (pl : va_W) (hdn : dn ≤ 64) (hpl : plR cB rv pl) (hok : rvOk rv) : Met l y_D_countBlocks k_D_countBlocks ({ frames := 1, cells := 0, slots := 0, locals := 20 } : Room) (va_Pc [.ref hdo] (pc_R (dC, dI) (([(hdo, .inr (5, [.ref hra, .int (nI df), .int (nI dn)])), (hra, .inl (cR, 64, .inr (.inr (.inr (.inr ((rvA rv)))))))] : va_W) ++ pl) [(cR, .object R_V), (cB, .byte)])) (vp_Si (fun r => r = nI (cbk (rvP rv) dn))) 0 0 (fun _ => False) := by
  refine Met.ofW (cc := prog_2_method_8_code) (maxL := 3) (ret := (some .int)) (by decide) rfl ?_
  intro p e s m args below meth c s₁ B hml hv
  obtain ⟨rfl, hP, hK, hN⟩ := hv
  have hx := B.exec
  have hb := B.bytes
  have hr := B.returns
  have hts := atoms_spec (ws := k_D_countBlocks) B.pre
  have hw0 : ∀ w ∈ w0, w.before _ s = true := fun w h => hts w (List.mem_cons_of_mem _ h)
  have hown : s.vm.findClass R_D = some m.cls := findClass_of_methodNamed B.named
  have hlocks := B.notSynchronized
  have hP : va_P (dC, dI) vwCl (([(hdo, .inr (5, [.ref hra, .int (nI df), .int (nI dn)])), (hra, .inl (cR, 64, .inr (.inr (.inr (.inr ((rvA rv)))))))] : va_W) ++ pl) s.heap := hP
  have hl := lv_entry ([.ref hdo]) (n := 3) (Nat.le_of_ble_eq_true rfl)
  rw [lg_entry_eq]
  generalize (lg_sl ([.ref hdo]) ++ List.replicate (3 - (lg_sl ([.ref hdo])).length) Slot.unset).toArray = ls at hl ⊢
  have hl : lv_has ls 3 [(0, .ref hdo)] := hl
  refine lv_iconst (v := 0) hx hb d_D_countBlocks_0 (by decide) ?_
  refine lv_istore_n (lv' := [(1, .int 0), (0, .ref hdo)]) hx hb d_D_countBlocks_1 rfl hl (by decide) rfl (fun ls hl => ?_)
  refine lv_iconst (v := 0) hx hb d_D_countBlocks_2 (by decide) ?_
  refine lv_istore_n (lv' := [(2, .int 0), (1, .int 0), (0, .ref hdo)]) hx hb d_D_countBlocks_3 rfl hl (by decide) rfl (fun ls hl => ?_)
  refine lq_cbk hdo hra cR df dn cB rv pl hdn hpl hok hx hb hml hown hw0 hN hK hP (fun ls hl => ?_) (dn + 1) 0 (by omega) (by omega) ls (lv_sub hl [0, 1, 2] rfl)
  refine lv_iload_n hx hb d_D_countBlocks_43 rfl (lv_at hl 1 rfl) ?_
  exact W.iret (v := (nI (cbk (rvP rv) dn))) hx hb hr (fun t ht hW => ⟨(nI (cbk (rvP rv) dn)), rfl, rfl, ht⟩) (fun q h => by cases h) d_D_countBlocks_44
