set_option maxHeartbeats 4000000 in
set_option maxRecDepth 100000 in
theorem g_readNumber (l : Launch) (dC : Nat → ClassId) (dI : Nat → Nat → Nat) (sz : Nat) (h0 : Nat) (v_base : Value) (v_text : Value) (hpi : Nat) (cP : ClassId) (n : Nat) (fp : Nat → Int32) (S : List Int32) (a : Nat) (hs9 : tx S n fp) (hn : n ≤ 16384) (ha : a ≤ n) : Met l y_M_readNumber k_M_readNumber ({ frames := 0, cells := 0, slots := 0, locals := 0 } : Room) (va_Pc [.ref h0] (pc_E (dC, dI) [(h0, .inr (2, [v_base, v_text, .ref hpi, .int (nI a)])), (hpi, .inl (cP, n, .inl (fp)))] [(cP, .byte)] sz)) (va_Qi (fun (r : Int32) (_ : Unit) => r = vI (rd S a).1) (fun (_ : Unit) t => ∃ (a2 : Nat), (a2 = (rd S a).2) ∧ at_E (dC, dI) (va_A [(h0, .inr (2, [v_base, v_text, .ref hpi, .int (nI a)])), (hpi, .inl (cP, n, .inl (fp)))] sz) [(h0, .inr (2, [v_base, v_text, .ref hpi, .int (nI a2)])), (hpi, .inl (cP, n, .inl (fp)))] [(cP, .byte)] t) (va_A [(h0, .inr (2, [v_base, v_text, .ref hpi, .int (nI a)])), (hpi, .inl (cP, n, .inl (fp)))] sz)) 0 0 (va_A [(h0, .inr (2, [v_base, v_text, .ref hpi, .int (nI a)])), (hpi, .inl (cP, n, .inl (fp)))] sz) := by
  refine Met.ofW (cc := prog_3_method_8_code) (maxL := 4) (ret := (some .int)) (by decide) rfl ?_
  intro p e s m args below meth c s₁ B hml hv
  obtain ⟨rfl, hsz, hP, hK, hD0, hN⟩ := hv
  have hx := B.exec
  have hb := B.bytes
  have hr := B.returns
  have hts := atoms_spec (ws := k_M_readNumber) B.pre
  have hw0 : ∀ w ∈ w0, w.before _ s = true := fun w h => hts w (List.mem_cons_of_mem _ h)
  have hown : s.vm.findClass R_M = some m.cls := findClass_of_methodNamed B.named
  have hlocks := B.notSynchronized
  subst hsz
  have hD := hD0.self (sz := s.heap.size)
  generalize hAe : va_A [(h0, .inr (2, [v_base, v_text, .ref hpi, .int (nI a)])), (hpi, .inl (cP, n, .inl (fp)))] s.heap.size = A at hD ⊢
  have hA : ∀ q : Nat, s.heap.size ≤ q → A q := fun q h => by rw [← hAe]; exact Or.inr h
  have hS : va_S A s.heap s.heap [] := va_S.rf
  have hP : va_P (dC, dI) vwCl [(h0, .inr (2, [v_base, v_text, .ref hpi, .int (nI a)])), (hpi, .inl (cP, n, .inl (fp)))] s.heap := hP
  have hl := lv_entry ([.ref h0]) (n := 4) (Nat.le_of_ble_eq_true rfl)
  rw [lg_entry_eq]
  generalize (lg_sl ([.ref h0]) ++ List.replicate (4 - (lg_sl ([.ref h0])).length) Slot.unset).toArray = ls at hl ⊢
  have hl : lv_has ls 4 [(0, .ref h0)] := hl
  have hl9 : S.length = n := hs9.1
  refine lv_iconst (v := 0) hx hb d_M_readNumber_0 (by decide) ?_
  refine lv_istore_n (lv' := [(1, .int 0), (0, .ref h0)]) hx hb d_M_readNumber_1 rfl hl (by decide) rfl (fun ls hl => ?_)
  refine lv_iconst (v := 0) hx hb d_M_readNumber_2 (by decide) ?_
  refine lv_istore_n (lv' := [(2, .int 0), (1, .int 0), (0, .ref h0)]) hx hb d_M_readNumber_3 rfl hl (by decide) rfl (fun ls hl => ?_)
  refine lv_iload_n hx hb d_M_readNumber_4 rfl (lv_at hl 0 rfl) ?_
  refine lv_iconst (v := 3) hx hb d_M_readNumber_5 (by decide) ?_
  refine lv_icmp_ge (tgt := 75) hx hb d_M_readNumber_6 (by decide) (fun h9 => absurd h9 (by decide +kernel)) (fun _ => ?_)
  refine lv_aload_n hx hb d_M_readNumber_9 rfl (lv_at hl 2 rfl) ?_
  refine va_get (D := (dC, dI)) (ci := 2) (v := .int (nI a)) (C := R_M) (T := F_M) (N := 4) hx hb hw0 in_M hown hK hP 0 rfl rfl 3 (by decide) (hw0 (.fieldLink R_M 25 "TextKeeper$Maker" "at" "I") (List.mem_of_getElem? (i := 76) rfl)) (fun _ h9 => h9) rfl d_M_readNumber_10 ?_
  refine lv_aload_n hx hb d_M_readNumber_13 rfl (lv_at hl 2 rfl) ?_
  refine va_get (D := (dC, dI)) (ci := 2) (v := .ref hpi) (C := R_M) (T := F_M) (N := 4) hx hb hw0 in_M hown hK hP 0 rfl rfl 2 (by decide) (hw0 (.fieldLink R_M 21 "TextKeeper$Maker" "piece" "[B") (List.mem_of_getElem? (i := 75) rfl)) (fun _ h9 => h9) rfl d_M_readNumber_14 ?_
  refine va_alen (v := nI n) hx hb hK hP 1 0 rfl rfl (rfl) d_M_readNumber_17 ?_
  refine lv_icmp_lt (tgt := 23) hx hb d_M_readNumber_18 (by decide) (fun c_1 => ?_) (fun c_1 => ?_)
  · have hA_3 : a < n := (nI_ltI (by omega) (by omega)).mp c_1
    refine lv_aload_n hx hb d_M_readNumber_23 rfl (lv_at hl 2 rfl) ?_
    refine va_get (D := (dC, dI)) (ci := 2) (v := .ref hpi) (C := R_M) (T := F_M) (N := 4) hx hb hw0 in_M hown hK hP 0 rfl rfl 2 (by decide) (hw0 (.fieldLink R_M 21 "TextKeeper$Maker" "piece" "[B") (List.mem_of_getElem? (i := 75) rfl)) (fun _ h9 => h9) rfl d_M_readNumber_24 ?_
    refine lv_aload_n hx hb d_M_readNumber_27 rfl (lv_at hl 2 rfl) ?_
    refine va_get (D := (dC, dI)) (ci := 2) (v := .int (nI a)) (C := R_M) (T := F_M) (N := 4) hx hb hw0 in_M hown hK hP 0 rfl rfl 3 (by decide) (hw0 (.fieldLink R_M 25 "TextKeeper$Maker" "at" "I") (List.mem_of_getElem? (i := 76) rfl)) (fun _ h9 => h9) rfl d_M_readNumber_28 ?_
    refine va_bald hx hb hK hP 1 0 rfl rfl (vp_in_nI (by omega) (by omega)) d_M_readNumber_31 ?_
    refine lv_topi (fun x_4 ex_4 => ?_)
    refine lv_sipush (v := 255) hx hb d_M_readNumber_32 (by decide +kernel) ?_
    refine lv_iand hx hb d_M_readNumber_35 ?_
    refine lv_topi (fun x_5 ex_5 => ?_)
    obtain rfl : x_5 = (nI (byv S a)) := by rw [ex_5, ex_4]; exact ld_byv hs9 (by omega) (by omega)
    clear ex_5
    refine lv_istore_n (lv' := [(3, .int (nI (byv S a))), (2, .int 0), (1, .int 0), (0, .ref h0)]) hx hb d_M_readNumber_36 rfl hl (by decide) rfl (fun ls hl => ?_)
    refine lv_aload_n hx hb d_M_readNumber_37 rfl (lv_at hl 3 rfl) ?_
    refine lv_dup hx hb d_M_readNumber_38 rfl ?_
    refine va_get (D := (dC, dI)) (ci := 2) (v := .int (nI a)) (C := R_M) (T := F_M) (N := 4) hx hb hw0 in_M hown hK hP 0 rfl rfl 3 (by decide) (hw0 (.fieldLink R_M 25 "TextKeeper$Maker" "at" "I") (List.mem_of_getElem? (i := 76) rfl)) (fun _ h9 => h9) rfl d_M_readNumber_39 ?_
    refine lv_iconst (v := 1) hx hb d_M_readNumber_42 (by decide) ?_
    refine lv_iadd hx hb d_M_readNumber_43 ?_
    refine lv_topi (fun x_6 ex_6 => ?_)
    obtain rfl : x_6 = (nI (a + 1)) := by rw [ex_6]; exact nI_1 (a)
    clear ex_6
    refine va_put (D := (dC, dI)) (ci := 2) (v := .int (nI (a + 1))) (ty := .int) (C := R_M) (T := F_M) (N := 4) hx hb hw0 in_M ft_M tk_M nk_M hown hK hP hD hS 0 rfl rfl 3 (by decide) (hw0 (.fieldLink R_M 25 "TextKeeper$Maker" "at" "I") (List.mem_of_getElem? (i := 76) rfl)) (fun _ h9 => h9) rfl (by decide +kernel) rfl rfl (Nat.le_of_ble_eq_true rfl) d_M_readNumber_44 (fun H locs hP hD hS => ?_)
    replace hP : va_P (dC, dI) vwCl [(h0, .inr (2, [v_base, v_text, .ref hpi, .int (nI (a + 1))])), (hpi, .inl (cP, n, .inl (fp)))] H := hP
    replace hD : va_D A [(h0, .inr (2, [v_base, v_text, .ref hpi, .int (nI (a + 1))])), (hpi, .inl (cP, n, .inl (fp)))] := hD
    refine lv_iload_n hx hb d_M_readNumber_47 rfl (lv_at hl 2 rfl) ?_
    refine lv_iload_n hx hb d_M_readNumber_48 rfl (lv_at hl 0 rfl) ?_
    refine lv_sipush (v := 128) hx hb d_M_readNumber_49 (by decide +kernel) ?_
    refine lv_irem hx hb d_M_readNumber_52 (by decide +kernel) ?_
    refine lv_topi (fun x_7 ex_7 => ?_)
    obtain rfl : x_7 = (nI (byv S a % 128)) := by rw [ex_7]; exact (show nI (byv S a) - nI (byv S a) / nI 128 * nI 128 = nI (byv S a % 128) from pk_rem (Nat.lt_trans (byv_lt _ _) (by decide)) (by decide) (by decide))
    clear ex_7
    refine lv_bipush (v := 7) hx hb d_M_readNumber_53 (by decide +kernel) ?_
    refine lv_iload_n hx hb d_M_readNumber_55 rfl (lv_at hl 1 rfl) ?_
    refine lv_imul hx hb d_M_readNumber_56 ?_
    refine lv_topi (fun x_8 ex_8 => ?_)
    obtain rfl : x_8 = 0 := ex_8.trans (by decide +kernel)
    clear ex_8
    refine lv_ishl hx hb d_M_readNumber_57 ?_
    refine lv_topi (fun x_9 ex_9 => ?_)
    obtain rfl : x_9 = (nI (byv S a % 128)) := by rw [ex_9]; exact sh_0 _ (Nat.mod_lt _ (by decide))
    clear ex_9
    refine lv_iadd hx hb d_M_readNumber_58 ?_
    refine lv_topi (fun x_10 ex_10 => ?_)
    obtain rfl : x_10 = (nI (byv S a % 128)) := by rw [ex_10]; exact Int32.zero_add _
    clear ex_10
    refine lv_istore_n (lv' := [(1, .int (nI (byv S a % 128))), (3, .int (nI (byv S a))), (2, .int 0), (0, .ref h0)]) hx hb d_M_readNumber_59 rfl hl (by decide) rfl (fun ls hl => ?_)
    refine lv_iload_n hx hb d_M_readNumber_60 rfl (lv_at hl 1 rfl) ?_
    refine lv_sipush (v := 128) hx hb d_M_readNumber_61 (by decide +kernel) ?_
    refine lv_icmp_ge (tgt := 69) hx hb d_M_readNumber_64 (by decide) (fun c_11 => ?_) (fun c_11 => ?_)
    · have hV_13 : ¬ byv S a < 128 := (fun z => absurd (nI_lt z (by decide)) (Int32.not_lt.mpr c_11))
      refine lv_iinc (v := 1) (lv' := [(2, .int 1), (1, .int (nI (byv S a % 128))), (3, .int (nI (byv S a))), (0, .ref h0)]) hx hb d_M_readNumber_69 hl (k := 2) rfl (by decide +kernel) (by decide) rfl (fun ls hl => ?_)
      refine lv_goto (tgt := 4) hx hb d_M_readNumber_72 (by decide) ?_
      refine lv_iload_n hx hb d_M_readNumber_4 rfl (lv_at hl 0 rfl) ?_
      refine lv_iconst (v := 3) hx hb d_M_readNumber_5 (by decide) ?_
      refine lv_icmp_ge (tgt := 75) hx hb d_M_readNumber_6 (by decide) (fun h9 => absurd h9 (by decide +kernel)) (fun _ => ?_)
      refine lv_aload_n hx hb d_M_readNumber_9 rfl (lv_at hl 3 rfl) ?_
      refine va_get (D := (dC, dI)) (ci := 2) (v := .int (nI (a + 1))) (C := R_M) (T := F_M) (N := 4) hx hb hw0 in_M hown hK hP 0 rfl rfl 3 (by decide) (hw0 (.fieldLink R_M 25 "TextKeeper$Maker" "at" "I") (List.mem_of_getElem? (i := 76) rfl)) (fun _ h9 => h9) rfl d_M_readNumber_10 ?_
      refine lv_aload_n hx hb d_M_readNumber_13 rfl (lv_at hl 3 rfl) ?_
      refine va_get (D := (dC, dI)) (ci := 2) (v := .ref hpi) (C := R_M) (T := F_M) (N := 4) hx hb hw0 in_M hown hK hP 0 rfl rfl 2 (by decide) (hw0 (.fieldLink R_M 21 "TextKeeper$Maker" "piece" "[B") (List.mem_of_getElem? (i := 75) rfl)) (fun _ h9 => h9) rfl d_M_readNumber_14 ?_
      refine va_alen (v := nI n) hx hb hK hP 1 0 rfl rfl (rfl) d_M_readNumber_17 ?_
      refine lv_icmp_lt (tgt := 23) hx hb d_M_readNumber_18 (by decide) (fun c_14 => ?_) (fun c_14 => ?_)
      · have hA_16 : a + 1 < n := (nI_ltI (by omega) (by omega)).mp c_14
        refine lv_aload_n hx hb d_M_readNumber_23 rfl (lv_at hl 3 rfl) ?_
        refine va_get (D := (dC, dI)) (ci := 2) (v := .ref hpi) (C := R_M) (T := F_M) (N := 4) hx hb hw0 in_M hown hK hP 0 rfl rfl 2 (by decide) (hw0 (.fieldLink R_M 21 "TextKeeper$Maker" "piece" "[B") (List.mem_of_getElem? (i := 75) rfl)) (fun _ h9 => h9) rfl d_M_readNumber_24 ?_
        refine lv_aload_n hx hb d_M_readNumber_27 rfl (lv_at hl 3 rfl) ?_
        refine va_get (D := (dC, dI)) (ci := 2) (v := .int (nI (a + 1))) (C := R_M) (T := F_M) (N := 4) hx hb hw0 in_M hown hK hP 0 rfl rfl 3 (by decide) (hw0 (.fieldLink R_M 25 "TextKeeper$Maker" "at" "I") (List.mem_of_getElem? (i := 76) rfl)) (fun _ h9 => h9) rfl d_M_readNumber_28 ?_
        refine va_bald hx hb hK hP 1 0 rfl rfl (vp_in_nI (by omega) (by omega)) d_M_readNumber_31 ?_
        refine lv_topi (fun x_17 ex_17 => ?_)
        refine lv_sipush (v := 255) hx hb d_M_readNumber_32 (by decide +kernel) ?_
        refine lv_iand hx hb d_M_readNumber_35 ?_
        refine lv_topi (fun x_18 ex_18 => ?_)
        obtain rfl : x_18 = (nI (byv S (a + 1))) := by rw [ex_18, ex_17]; exact ld_byv hs9 (by omega) (by omega)
        clear ex_18
        refine lv_istore_n (lv' := [(3, .int (nI (byv S (a + 1)))), (2, .int 1), (1, .int (nI (byv S a % 128))), (0, .ref h0)]) hx hb d_M_readNumber_36 rfl hl (by decide) rfl (fun ls hl => ?_)
        refine lv_aload_n hx hb d_M_readNumber_37 rfl (lv_at hl 3 rfl) ?_
        refine lv_dup hx hb d_M_readNumber_38 rfl ?_
        refine va_get (D := (dC, dI)) (ci := 2) (v := .int (nI (a + 1))) (C := R_M) (T := F_M) (N := 4) hx hb hw0 in_M hown hK hP 0 rfl rfl 3 (by decide) (hw0 (.fieldLink R_M 25 "TextKeeper$Maker" "at" "I") (List.mem_of_getElem? (i := 76) rfl)) (fun _ h9 => h9) rfl d_M_readNumber_39 ?_
        refine lv_iconst (v := 1) hx hb d_M_readNumber_42 (by decide) ?_
        refine lv_iadd hx hb d_M_readNumber_43 ?_
        refine lv_topi (fun x_19 ex_19 => ?_)
        obtain rfl : x_19 = (nI (a + 1 + 1)) := by rw [ex_19]; exact nI_1 (a + 1)
        clear ex_19
        refine va_put (D := (dC, dI)) (ci := 2) (v := .int (nI (a + 1 + 1))) (ty := .int) (C := R_M) (T := F_M) (N := 4) hx hb hw0 in_M ft_M tk_M nk_M hown hK hP hD hS 0 rfl rfl 3 (by decide) (hw0 (.fieldLink R_M 25 "TextKeeper$Maker" "at" "I") (List.mem_of_getElem? (i := 76) rfl)) (fun _ h9 => h9) rfl (by decide +kernel) rfl rfl (Nat.le_of_ble_eq_true rfl) d_M_readNumber_44 (fun H locs hP hD hS => ?_)
        replace hP : va_P (dC, dI) vwCl [(h0, .inr (2, [v_base, v_text, .ref hpi, .int (nI (a + 1 + 1))])), (hpi, .inl (cP, n, .inl (fp)))] H := hP
        replace hD : va_D A [(h0, .inr (2, [v_base, v_text, .ref hpi, .int (nI (a + 1 + 1))])), (hpi, .inl (cP, n, .inl (fp)))] := hD
        refine lv_iload_n hx hb d_M_readNumber_47 rfl (lv_at hl 2 rfl) ?_
        refine lv_iload_n hx hb d_M_readNumber_48 rfl (lv_at hl 0 rfl) ?_
        refine lv_sipush (v := 128) hx hb d_M_readNumber_49 (by decide +kernel) ?_
        refine lv_irem hx hb d_M_readNumber_52 (by decide +kernel) ?_
        refine lv_topi (fun x_20 ex_20 => ?_)
        obtain rfl : x_20 = (nI (byv S (a + 1) % 128)) := by rw [ex_20]; exact (show nI (byv S (a + 1)) - nI (byv S (a + 1)) / nI 128 * nI 128 = nI (byv S (a + 1) % 128) from pk_rem (Nat.lt_trans (byv_lt _ _) (by decide)) (by decide) (by decide))
        clear ex_20
        refine lv_bipush (v := 7) hx hb d_M_readNumber_53 (by decide +kernel) ?_
        refine lv_iload_n hx hb d_M_readNumber_55 rfl (lv_at hl 1 rfl) ?_
        refine lv_imul hx hb d_M_readNumber_56 ?_
        refine lv_topi (fun x_21 ex_21 => ?_)
        obtain rfl : x_21 = 7 := ex_21.trans (by decide +kernel)
        clear ex_21
        refine lv_ishl hx hb d_M_readNumber_57 ?_
        refine lv_topi (fun x_22 ex_22 => ?_)
        obtain rfl : x_22 = (nI (byv S (a + 1) % 128 * 128)) := by rw [ex_22]; exact sh_7 _ (Nat.mod_lt _ (by decide))
        clear ex_22
        refine lv_iadd hx hb d_M_readNumber_58 ?_
        refine lv_topi (fun x_23 ex_23 => ?_)
        obtain rfl : x_23 = (nI (byv S a % 128 + byv S (a + 1) % 128 * 128)) := by rw [ex_23]; exact nI_add (byv S a % 128) (byv S (a + 1) % 128 * 128)
        clear ex_23
        refine lv_istore_n (lv' := [(1, .int (nI (byv S a % 128 + byv S (a + 1) % 128 * 128))), (3, .int (nI (byv S (a + 1)))), (2, .int 1), (0, .ref h0)]) hx hb d_M_readNumber_59 rfl hl (by decide) rfl (fun ls hl => ?_)
        refine lv_iload_n hx hb d_M_readNumber_60 rfl (lv_at hl 1 rfl) ?_
        refine lv_sipush (v := 128) hx hb d_M_readNumber_61 (by decide +kernel) ?_
        refine lv_icmp_ge (tgt := 69) hx hb d_M_readNumber_64 (by decide) (fun c_24 => ?_) (fun c_24 => ?_)
        · have hV_26 : ¬ byv S (a + 1) < 128 := (fun z => absurd (nI_lt z (by decide)) (Int32.not_lt.mpr c_24))
          refine lv_iinc (v := 2) (lv' := [(2, .int 2), (1, .int (nI (byv S a % 128 + byv S (a + 1) % 128 * 128))), (3, .int (nI (byv S (a + 1)))), (0, .ref h0)]) hx hb d_M_readNumber_69 hl (k := 2) rfl (by decide +kernel) (by decide) rfl (fun ls hl => ?_)
          refine lv_goto (tgt := 4) hx hb d_M_readNumber_72 (by decide) ?_
          refine lv_iload_n hx hb d_M_readNumber_4 rfl (lv_at hl 0 rfl) ?_
          refine lv_iconst (v := 3) hx hb d_M_readNumber_5 (by decide) ?_
          refine lv_icmp_ge (tgt := 75) hx hb d_M_readNumber_6 (by decide) (fun h9 => absurd h9 (by decide +kernel)) (fun _ => ?_)
          refine lv_aload_n hx hb d_M_readNumber_9 rfl (lv_at hl 3 rfl) ?_
          refine va_get (D := (dC, dI)) (ci := 2) (v := .int (nI (a + 1 + 1))) (C := R_M) (T := F_M) (N := 4) hx hb hw0 in_M hown hK hP 0 rfl rfl 3 (by decide) (hw0 (.fieldLink R_M 25 "TextKeeper$Maker" "at" "I") (List.mem_of_getElem? (i := 76) rfl)) (fun _ h9 => h9) rfl d_M_readNumber_10 ?_
          refine lv_aload_n hx hb d_M_readNumber_13 rfl (lv_at hl 3 rfl) ?_
          refine va_get (D := (dC, dI)) (ci := 2) (v := .ref hpi) (C := R_M) (T := F_M) (N := 4) hx hb hw0 in_M hown hK hP 0 rfl rfl 2 (by decide) (hw0 (.fieldLink R_M 21 "TextKeeper$Maker" "piece" "[B") (List.mem_of_getElem? (i := 75) rfl)) (fun _ h9 => h9) rfl d_M_readNumber_14 ?_
          refine va_alen (v := nI n) hx hb hK hP 1 0 rfl rfl (rfl) d_M_readNumber_17 ?_
          refine lv_icmp_lt (tgt := 23) hx hb d_M_readNumber_18 (by decide) (fun c_27 => ?_) (fun c_27 => ?_)
          · have hA_29 : a + 1 + 1 < n := (nI_ltI (by omega) (by omega)).mp c_27
            refine lv_aload_n hx hb d_M_readNumber_23 rfl (lv_at hl 3 rfl) ?_
            refine va_get (D := (dC, dI)) (ci := 2) (v := .ref hpi) (C := R_M) (T := F_M) (N := 4) hx hb hw0 in_M hown hK hP 0 rfl rfl 2 (by decide) (hw0 (.fieldLink R_M 21 "TextKeeper$Maker" "piece" "[B") (List.mem_of_getElem? (i := 75) rfl)) (fun _ h9 => h9) rfl d_M_readNumber_24 ?_
            refine lv_aload_n hx hb d_M_readNumber_27 rfl (lv_at hl 3 rfl) ?_
            refine va_get (D := (dC, dI)) (ci := 2) (v := .int (nI (a + 1 + 1))) (C := R_M) (T := F_M) (N := 4) hx hb hw0 in_M hown hK hP 0 rfl rfl 3 (by decide) (hw0 (.fieldLink R_M 25 "TextKeeper$Maker" "at" "I") (List.mem_of_getElem? (i := 76) rfl)) (fun _ h9 => h9) rfl d_M_readNumber_28 ?_
            refine va_bald hx hb hK hP 1 0 rfl rfl (vp_in_nI (by omega) (by omega)) d_M_readNumber_31 ?_
            refine lv_topi (fun x_30 ex_30 => ?_)
            refine lv_sipush (v := 255) hx hb d_M_readNumber_32 (by decide +kernel) ?_
            refine lv_iand hx hb d_M_readNumber_35 ?_
            refine lv_topi (fun x_31 ex_31 => ?_)
            obtain rfl : x_31 = (nI (byv S (a + 1 + 1))) := by rw [ex_31, ex_30]; exact ld_byv hs9 (by omega) (by omega)
            clear ex_31
            refine lv_istore_n (lv' := [(3, .int (nI (byv S (a + 1 + 1)))), (2, .int 2), (1, .int (nI (byv S a % 128 + byv S (a + 1) % 128 * 128))), (0, .ref h0)]) hx hb d_M_readNumber_36 rfl hl (by decide) rfl (fun ls hl => ?_)
            refine lv_aload_n hx hb d_M_readNumber_37 rfl (lv_at hl 3 rfl) ?_
            refine lv_dup hx hb d_M_readNumber_38 rfl ?_
            refine va_get (D := (dC, dI)) (ci := 2) (v := .int (nI (a + 1 + 1))) (C := R_M) (T := F_M) (N := 4) hx hb hw0 in_M hown hK hP 0 rfl rfl 3 (by decide) (hw0 (.fieldLink R_M 25 "TextKeeper$Maker" "at" "I") (List.mem_of_getElem? (i := 76) rfl)) (fun _ h9 => h9) rfl d_M_readNumber_39 ?_
            refine lv_iconst (v := 1) hx hb d_M_readNumber_42 (by decide) ?_
            refine lv_iadd hx hb d_M_readNumber_43 ?_
            refine lv_topi (fun x_32 ex_32 => ?_)
            obtain rfl : x_32 = (nI (a + 1 + 1 + 1)) := by rw [ex_32]; exact nI_1 (a + 1 + 1)
            clear ex_32
            refine va_put (D := (dC, dI)) (ci := 2) (v := .int (nI (a + 1 + 1 + 1))) (ty := .int) (C := R_M) (T := F_M) (N := 4) hx hb hw0 in_M ft_M tk_M nk_M hown hK hP hD hS 0 rfl rfl 3 (by decide) (hw0 (.fieldLink R_M 25 "TextKeeper$Maker" "at" "I") (List.mem_of_getElem? (i := 76) rfl)) (fun _ h9 => h9) rfl (by decide +kernel) rfl rfl (Nat.le_of_ble_eq_true rfl) d_M_readNumber_44 (fun H locs hP hD hS => ?_)
            replace hP : va_P (dC, dI) vwCl [(h0, .inr (2, [v_base, v_text, .ref hpi, .int (nI (a + 1 + 1 + 1))])), (hpi, .inl (cP, n, .inl (fp)))] H := hP
            replace hD : va_D A [(h0, .inr (2, [v_base, v_text, .ref hpi, .int (nI (a + 1 + 1 + 1))])), (hpi, .inl (cP, n, .inl (fp)))] := hD
            refine lv_iload_n hx hb d_M_readNumber_47 rfl (lv_at hl 2 rfl) ?_
            refine lv_iload_n hx hb d_M_readNumber_48 rfl (lv_at hl 0 rfl) ?_
            refine lv_sipush (v := 128) hx hb d_M_readNumber_49 (by decide +kernel) ?_
            refine lv_irem hx hb d_M_readNumber_52 (by decide +kernel) ?_
            refine lv_topi (fun x_33 ex_33 => ?_)
            obtain rfl : x_33 = (nI (byv S (a + 1 + 1) % 128)) := by rw [ex_33]; exact (show nI (byv S (a + 1 + 1)) - nI (byv S (a + 1 + 1)) / nI 128 * nI 128 = nI (byv S (a + 1 + 1) % 128) from pk_rem (Nat.lt_trans (byv_lt _ _) (by decide)) (by decide) (by decide))
            clear ex_33
            refine lv_bipush (v := 7) hx hb d_M_readNumber_53 (by decide +kernel) ?_
            refine lv_iload_n hx hb d_M_readNumber_55 rfl (lv_at hl 1 rfl) ?_
            refine lv_imul hx hb d_M_readNumber_56 ?_
            refine lv_topi (fun x_34 ex_34 => ?_)
            obtain rfl : x_34 = 14 := ex_34.trans (by decide +kernel)
            clear ex_34
            refine lv_ishl hx hb d_M_readNumber_57 ?_
            refine lv_topi (fun x_35 ex_35 => ?_)
            obtain rfl : x_35 = (nI (byv S (a + 1 + 1) % 128 * 16384)) := by rw [ex_35]; exact sh_14 _ (Nat.mod_lt _ (by decide))
            clear ex_35
            refine lv_iadd hx hb d_M_readNumber_58 ?_
            refine lv_topi (fun x_36 ex_36 => ?_)
            obtain rfl : x_36 = (nI (byv S a % 128 + byv S (a + 1) % 128 * 128 + byv S (a + 1 + 1) % 128 * 16384)) := by rw [ex_36]; exact nI_add (byv S a % 128 + byv S (a + 1) % 128 * 128) (byv S (a + 1 + 1) % 128 * 16384)
            clear ex_36
            refine lv_istore_n (lv' := [(1, .int (nI (byv S a % 128 + byv S (a + 1) % 128 * 128 + byv S (a + 1 + 1) % 128 * 16384))), (3, .int (nI (byv S (a + 1 + 1)))), (2, .int 2), (0, .ref h0)]) hx hb d_M_readNumber_59 rfl hl (by decide) rfl (fun ls hl => ?_)
            refine lv_iload_n hx hb d_M_readNumber_60 rfl (lv_at hl 1 rfl) ?_
            refine lv_sipush (v := 128) hx hb d_M_readNumber_61 (by decide +kernel) ?_
            refine lv_icmp_ge (tgt := 69) hx hb d_M_readNumber_64 (by decide) (fun c_37 => ?_) (fun c_37 => ?_)
            · have hV_39 : ¬ byv S (a + 1 + 1) < 128 := (fun z => absurd (nI_lt z (by decide)) (Int32.not_lt.mpr c_37))
              refine lv_iinc (v := 3) (lv' := [(2, .int 3), (1, .int (nI (byv S a % 128 + byv S (a + 1) % 128 * 128 + byv S (a + 1 + 1) % 128 * 16384))), (3, .int (nI (byv S (a + 1 + 1)))), (0, .ref h0)]) hx hb d_M_readNumber_69 hl (k := 2) rfl (by decide +kernel) (by decide) rfl (fun ls hl => ?_)
              refine lv_goto (tgt := 4) hx hb d_M_readNumber_72 (by decide) ?_
              refine lv_iload_n hx hb d_M_readNumber_4 rfl (lv_at hl 0 rfl) ?_
              refine lv_iconst (v := 3) hx hb d_M_readNumber_5 (by decide) ?_
              refine lv_icmp_ge (tgt := 75) hx hb d_M_readNumber_6 (by decide) (fun _ => ?_) (fun h9 => absurd h9 (by decide +kernel))
              refine lv_iconst (v := (-1)) hx hb d_M_readNumber_75 (by decide) ?_
              have hP9 := hP.sub (ws' := [(h0, .inr (2, [v_base, v_text, .ref hpi, .int (nI (a + 1 + 1 + 1))])), (hpi, .inl (cP, n, .inl (fp)))]) [0, 1] rfl
              have hD9 := hD.sub (ws' := [(h0, .inr (2, [v_base, v_text, .ref hpi, .int (nI (a + 1 + 1 + 1))])), (hpi, .inl (cP, n, .inl (fp)))]) [0, 1] (by decide) rfl
              have hK9 := hK.sub (tys' := [(cP, .byte)]) [0] rfl
              exact W.iret (v := (-1)) hx hb hr (fun t ht hW => ⟨⟨(-1), (), rfl, (by rw [rd, if_neg (by omega), if_neg (by omega), if_neg (by omega), if_neg (by omega), if_neg (by omega), if_neg (by omega)]; rfl), (a + 1 + 1 + 1), (by rw [rd, if_neg (by omega), if_neg (by omega), if_neg (by omega), if_neg (by omega), if_neg (by omega), if_neg (by omega)]), by rw [ht]; exact hP9, va_K.moved hW.alike hK9, hD9⟩, hS.F ht⟩) hS.2.2 d_M_readNumber_76
            · have hV_38 : byv S (a + 1 + 1) < 128 := (by rcases Nat.lt_or_ge (byv S (a + 1 + 1)) 128 with z | z; exact z; exact absurd (show nI 128 ≤ nI (byv S (a + 1 + 1)) from nI_le z (Nat.lt_trans (byv_lt _ _) (by decide))) c_37)
              refine lv_iload_n hx hb d_M_readNumber_67 rfl (lv_at hl 0 rfl) ?_
              have hP9 := hP.sub (ws' := [(h0, .inr (2, [v_base, v_text, .ref hpi, .int (nI (a + 1 + 1 + 1))])), (hpi, .inl (cP, n, .inl (fp)))]) [0, 1] rfl
              have hD9 := hD.sub (ws' := [(h0, .inr (2, [v_base, v_text, .ref hpi, .int (nI (a + 1 + 1 + 1))])), (hpi, .inl (cP, n, .inl (fp)))]) [0, 1] (by decide) rfl
              have hK9 := hK.sub (tys' := [(cP, .byte)]) [0] rfl
              exact W.iret (v := (nI (byv S a % 128 + byv S (a + 1) % 128 * 128 + byv S (a + 1 + 1) % 128 * 16384))) hx hb hr (fun t ht hW => ⟨⟨(nI (byv S a % 128 + byv S (a + 1) % 128 * 128 + byv S (a + 1 + 1) % 128 * 16384)), (), rfl, (by rw [rd, if_neg (by omega), if_neg (by omega), if_neg (by omega), if_neg (by omega), if_neg (by omega), if_pos (by omega)]; rfl), (a + 1 + 1 + 1), (by rw [rd, if_neg (by omega), if_neg (by omega), if_neg (by omega), if_neg (by omega), if_neg (by omega), if_pos (by omega)]), by rw [ht]; exact hP9, va_K.moved hW.alike hK9, hD9⟩, hS.F ht⟩) hS.2.2 d_M_readNumber_68
          · have hA_28 : ¬ a + 1 + 1 < n := (fun z => c_27 ((nI_ltI (by omega) (by omega)).mpr z))
            refine lv_iconst (v := (-1)) hx hb d_M_readNumber_21 (by decide) ?_
            have hP9 := hP.sub (ws' := [(h0, .inr (2, [v_base, v_text, .ref hpi, .int (nI (a + 1 + 1))])), (hpi, .inl (cP, n, .inl (fp)))]) [0, 1] rfl
            have hD9 := hD.sub (ws' := [(h0, .inr (2, [v_base, v_text, .ref hpi, .int (nI (a + 1 + 1))])), (hpi, .inl (cP, n, .inl (fp)))]) [0, 1] (by decide) rfl
            have hK9 := hK.sub (tys' := [(cP, .byte)]) [0] rfl
            exact W.iret (v := (-1)) hx hb hr (fun t ht hW => ⟨⟨(-1), (), rfl, (by rw [rd, if_neg (by omega), if_neg (by omega), if_neg (by omega), if_neg (by omega), if_pos (by omega)]; rfl), (a + 1 + 1), (by rw [rd, if_neg (by omega), if_neg (by omega), if_neg (by omega), if_neg (by omega), if_pos (by omega)]), by rw [ht]; exact hP9, va_K.moved hW.alike hK9, hD9⟩, hS.F ht⟩) hS.2.2 d_M_readNumber_22
        · have hV_25 : byv S (a + 1) < 128 := (by rcases Nat.lt_or_ge (byv S (a + 1)) 128 with z | z; exact z; exact absurd (show nI 128 ≤ nI (byv S (a + 1)) from nI_le z (Nat.lt_trans (byv_lt _ _) (by decide))) c_24)
          refine lv_iload_n hx hb d_M_readNumber_67 rfl (lv_at hl 0 rfl) ?_
          have hP9 := hP.sub (ws' := [(h0, .inr (2, [v_base, v_text, .ref hpi, .int (nI (a + 1 + 1))])), (hpi, .inl (cP, n, .inl (fp)))]) [0, 1] rfl
          have hD9 := hD.sub (ws' := [(h0, .inr (2, [v_base, v_text, .ref hpi, .int (nI (a + 1 + 1))])), (hpi, .inl (cP, n, .inl (fp)))]) [0, 1] (by decide) rfl
          have hK9 := hK.sub (tys' := [(cP, .byte)]) [0] rfl
          exact W.iret (v := (nI (byv S a % 128 + byv S (a + 1) % 128 * 128))) hx hb hr (fun t ht hW => ⟨⟨(nI (byv S a % 128 + byv S (a + 1) % 128 * 128)), (), rfl, (by rw [rd, if_neg (by omega), if_neg (by omega), if_neg (by omega), if_pos (by omega)]; rfl), (a + 1 + 1), (by rw [rd, if_neg (by omega), if_neg (by omega), if_neg (by omega), if_pos (by omega)]), by rw [ht]; exact hP9, va_K.moved hW.alike hK9, hD9⟩, hS.F ht⟩) hS.2.2 d_M_readNumber_68
      · have hA_15 : ¬ a + 1 < n := (fun z => c_14 ((nI_ltI (by omega) (by omega)).mpr z))
        refine lv_iconst (v := (-1)) hx hb d_M_readNumber_21 (by decide) ?_
        have hP9 := hP.sub (ws' := [(h0, .inr (2, [v_base, v_text, .ref hpi, .int (nI (a + 1))])), (hpi, .inl (cP, n, .inl (fp)))]) [0, 1] rfl
        have hD9 := hD.sub (ws' := [(h0, .inr (2, [v_base, v_text, .ref hpi, .int (nI (a + 1))])), (hpi, .inl (cP, n, .inl (fp)))]) [0, 1] (by decide) rfl
        have hK9 := hK.sub (tys' := [(cP, .byte)]) [0] rfl
        exact W.iret (v := (-1)) hx hb hr (fun t ht hW => ⟨⟨(-1), (), rfl, (by rw [rd, if_neg (by omega), if_neg (by omega), if_pos (by omega)]; rfl), (a + 1), (by rw [rd, if_neg (by omega), if_neg (by omega), if_pos (by omega)]), by rw [ht]; exact hP9, va_K.moved hW.alike hK9, hD9⟩, hS.F ht⟩) hS.2.2 d_M_readNumber_22
    · have hV_12 : byv S a < 128 := (by rcases Nat.lt_or_ge (byv S a) 128 with z | z; exact z; exact absurd (show nI 128 ≤ nI (byv S a) from nI_le z (Nat.lt_trans (byv_lt _ _) (by decide))) c_11)
      refine lv_iload_n hx hb d_M_readNumber_67 rfl (lv_at hl 0 rfl) ?_
      have hP9 := hP.sub (ws' := [(h0, .inr (2, [v_base, v_text, .ref hpi, .int (nI (a + 1))])), (hpi, .inl (cP, n, .inl (fp)))]) [0, 1] rfl
      have hD9 := hD.sub (ws' := [(h0, .inr (2, [v_base, v_text, .ref hpi, .int (nI (a + 1))])), (hpi, .inl (cP, n, .inl (fp)))]) [0, 1] (by decide) rfl
      have hK9 := hK.sub (tys' := [(cP, .byte)]) [0] rfl
      exact W.iret (v := (nI (byv S a % 128))) hx hb hr (fun t ht hW => ⟨⟨(nI (byv S a % 128)), (), rfl, (by rw [rd, if_neg (by omega), if_pos (by omega)]; rfl), (a + 1), (by rw [rd, if_neg (by omega), if_pos (by omega)]), by rw [ht]; exact hP9, va_K.moved hW.alike hK9, hD9⟩, hS.F ht⟩) hS.2.2 d_M_readNumber_68
  · have hA_2 : ¬ a < n := (fun z => c_1 ((nI_ltI (by omega) (by omega)).mpr z))
    refine lv_iconst (v := (-1)) hx hb d_M_readNumber_21 (by decide) ?_
    have hP9 := hP.sub (ws' := [(h0, .inr (2, [v_base, v_text, .ref hpi, .int (nI (a))])), (hpi, .inl (cP, n, .inl (fp)))]) [0, 1] rfl
    have hD9 := hD.sub (ws' := [(h0, .inr (2, [v_base, v_text, .ref hpi, .int (nI (a))])), (hpi, .inl (cP, n, .inl (fp)))]) [0, 1] (by decide) rfl
    have hK9 := hK.sub (tys' := [(cP, .byte)]) [0] rfl
    exact W.iret (v := (-1)) hx hb hr (fun t ht hW => ⟨⟨(-1), (), rfl, (by rw [rd, if_pos (by omega)]; rfl), (a), (by rw [rd, if_pos (by omega)]), by rw [ht]; exact hP9, va_K.moved hW.alike hK9, hD9⟩, hS.F ht⟩) hS.2.2 d_M_readNumber_22
set_option maxHeartbeats 4000000 in
set_option maxRecDepth 100000 in
theorem o_number (l : Launch) (dC : Nat → ClassId) (dI : Nat → Nat → Nat) (sz : Nat) (h0 : Nat) (i_thrown : Int32) (i_down : Int32) (i_lasts : Int32) (v_buffer : Value) (i_size : Int32) (i_documents : Int32) (v_gone : Value) (v_first : Value) (v_many : Value) (v_lengths : Value) (v_authors : Value) (v_sums : Value) (v_made : Value) (i_madeSize : Int32) (v_base : Value) (i_baseSize : Int32) (v_text : Value) (i_textSize : Int32) (i_textSteps : Int32) (v_other : Value) (i_otherSize : Int32) (v_piece : Value) (i_pieceSize : Int32) (i_value : Int32) (hrow : Nat) (cW : ClassId) (fr : Nat → Int32) (S : List Int32) (ab : Nat) (en : Nat) (b0 : Nat) (a : Nat) (hsx : sx S b0 fr) (hab : ab = b0 + a) (hen : en = b0 + S.length) (ha : a ≤ S.length) : Met l y_O_number k_O_number ({ frames := 0, cells := 0, slots := 0, locals := 0 } : Room) (va_Pc [.ref h0] (pc_E (dC, dI) [(h0, .inr (7, [.int i_thrown, .int i_down, .int i_lasts, v_buffer, .int i_size, .int i_documents, v_gone, v_first, v_many, v_lengths, v_authors, v_sums, .ref hrow, v_made, .int i_madeSize, v_base, .int i_baseSize, v_text, .int i_textSize, .int i_textSteps, v_other, .int i_otherSize, v_piece, .int i_pieceSize, .int (nI ab), .int (nI en), .int i_value])), (hrow, .inl (cW, 16384, .inl (fr)))] [(cW, .byte)] sz)) (va_Qi (fun (r : Int32) (_ : Unit) => r = oB (rd S a).1) (fun (_ : Unit) t => ∃ (a2 : Nat) (vv : Int32), (a2 = b0 + (rd S a).2 ∧ ∀ v, (rd S a).1 = some v → vv = nI v) ∧ at_E (dC, dI) (va_A [(h0, .inr (7, [.int i_thrown, .int i_down, .int i_lasts, v_buffer, .int i_size, .int i_documents, v_gone, v_first, v_many, v_lengths, v_authors, v_sums, .ref hrow, v_made, .int i_madeSize, v_base, .int i_baseSize, v_text, .int i_textSize, .int i_textSteps, v_other, .int i_otherSize, v_piece, .int i_pieceSize, .int (nI ab), .int (nI en), .int i_value])), (hrow, .inl (cW, 16384, .inl (fr)))] sz) [(h0, .inr (7, [.int i_thrown, .int i_down, .int i_lasts, v_buffer, .int i_size, .int i_documents, v_gone, v_first, v_many, v_lengths, v_authors, v_sums, .ref hrow, v_made, .int i_madeSize, v_base, .int i_baseSize, v_text, .int i_textSize, .int i_textSteps, v_other, .int i_otherSize, v_piece, .int i_pieceSize, .int (nI a2), .int (nI en), .int vv])), (hrow, .inl (cW, 16384, .inl (fr)))] [(cW, .byte)] t) (va_A [(h0, .inr (7, [.int i_thrown, .int i_down, .int i_lasts, v_buffer, .int i_size, .int i_documents, v_gone, v_first, v_many, v_lengths, v_authors, v_sums, .ref hrow, v_made, .int i_madeSize, v_base, .int i_baseSize, v_text, .int i_textSize, .int i_textSteps, v_other, .int i_otherSize, v_piece, .int i_pieceSize, .int (nI ab), .int (nI en), .int i_value])), (hrow, .inl (cW, 16384, .inl (fr)))] sz)) 0 0 (va_A [(h0, .inr (7, [.int i_thrown, .int i_down, .int i_lasts, v_buffer, .int i_size, .int i_documents, v_gone, v_first, v_many, v_lengths, v_authors, v_sums, .ref hrow, v_made, .int i_madeSize, v_base, .int i_baseSize, v_text, .int i_textSize, .int i_textSteps, v_other, .int i_otherSize, v_piece, .int i_pieceSize, .int (nI ab), .int (nI en), .int i_value])), (hrow, .inl (cW, 16384, .inl (fr)))] sz) := by
  refine Met.ofW (cc := prog_9_method_17_code) (maxL := 3) (ret := (some .boolean)) (by decide) rfl ?_
  intro p e s m args below meth c s₁ B hml hv
  obtain ⟨rfl, hsz, hP, hK, hD0, hN⟩ := hv
  have hx := B.exec
  have hb := B.bytes
  have hr := B.returns
  have hts := atoms_spec (ws := k_O_number) B.pre
  have hw0 : ∀ w ∈ w0, w.before _ s = true := fun w h => hts w (List.mem_cons_of_mem _ h)
  have hown : s.vm.findClass R_O = some m.cls := findClass_of_methodNamed B.named
  have hlocks := B.notSynchronized
  subst hsz
  have hD := hD0.self (sz := s.heap.size)
  generalize hAe : va_A [(h0, .inr (7, [.int i_thrown, .int i_down, .int i_lasts, v_buffer, .int i_size, .int i_documents, v_gone, v_first, v_many, v_lengths, v_authors, v_sums, .ref hrow, v_made, .int i_madeSize, v_base, .int i_baseSize, v_text, .int i_textSize, .int i_textSteps, v_other, .int i_otherSize, v_piece, .int i_pieceSize, .int (nI ab), .int (nI en), .int i_value])), (hrow, .inl (cW, 16384, .inl (fr)))] s.heap.size = A at hD ⊢
  have hA : ∀ q : Nat, s.heap.size ≤ q → A q := fun q h => by rw [← hAe]; exact Or.inr h
  have hS : va_S A s.heap s.heap [] := va_S.rf
  have hP : va_P (dC, dI) vwCl [(h0, .inr (7, [.int i_thrown, .int i_down, .int i_lasts, v_buffer, .int i_size, .int i_documents, v_gone, v_first, v_many, v_lengths, v_authors, v_sums, .ref hrow, v_made, .int i_madeSize, v_base, .int i_baseSize, v_text, .int i_textSize, .int i_textSteps, v_other, .int i_otherSize, v_piece, .int i_pieceSize, .int (nI ab), .int (nI en), .int i_value])), (hrow, .inl (cW, 16384, .inl (fr)))] s.heap := hP
  have hl := lv_entry ([.ref h0]) (n := 3) (Nat.le_of_ble_eq_true rfl)
  rw [lg_entry_eq]
  generalize (lg_sl ([.ref h0]) ++ List.replicate (3 - (lg_sl ([.ref h0])).length) Slot.unset).toArray = ls at hl ⊢
  have hl : lv_has ls 3 [(0, .ref h0)] := hl
  have hl9 := hsx.2.2
  refine lv_aload_n hx hb d_O_number_0 rfl (lv_at hl 0 rfl) ?_
  refine lv_iconst (v := 0) hx hb d_O_number_1 (by decide) ?_
  refine va_put (D := (dC, dI)) (ci := 7) (v := .int 0) (ty := .int) (C := R_O) (T := F_O) (N := 27) hx hb hw0 in_O ft_O tk_O nk_O hown hK hP hD hS 0 rfl rfl 26 (by decide) (hw0 (.fieldLink R_O 100 "TextKeeperModel" "value" "I") (List.mem_of_getElem? (i := 179) rfl)) (fun _ h9 => h9) rfl (by decide +kernel) rfl rfl (Nat.le_of_ble_eq_true rfl) d_O_number_2 (fun H locs hP hD hS => ?_)
  replace hP : va_P (dC, dI) vwCl [(h0, .inr (7, [.int i_thrown, .int i_down, .int i_lasts, v_buffer, .int i_size, .int i_documents, v_gone, v_first, v_many, v_lengths, v_authors, v_sums, .ref hrow, v_made, .int i_madeSize, v_base, .int i_baseSize, v_text, .int i_textSize, .int i_textSteps, v_other, .int i_otherSize, v_piece, .int i_pieceSize, .int (nI ab), .int (nI en), .int 0])), (hrow, .inl (cW, 16384, .inl (fr)))] H := hP
  replace hD : va_D A [(h0, .inr (7, [.int i_thrown, .int i_down, .int i_lasts, v_buffer, .int i_size, .int i_documents, v_gone, v_first, v_many, v_lengths, v_authors, v_sums, .ref hrow, v_made, .int i_madeSize, v_base, .int i_baseSize, v_text, .int i_textSize, .int i_textSteps, v_other, .int i_otherSize, v_piece, .int i_pieceSize, .int (nI ab), .int (nI en), .int 0])), (hrow, .inl (cW, 16384, .inl (fr)))] := hD
  refine lv_iconst (v := 0) hx hb d_O_number_5 (by decide) ?_
  refine lv_istore_n (lv' := [(1, .int 0), (0, .ref h0)]) hx hb d_O_number_6 rfl hl (by decide) rfl (fun ls hl => ?_)
  refine lv_iload_n hx hb d_O_number_7 rfl (lv_at hl 0 rfl) ?_
  refine lv_iconst (v := 3) hx hb d_O_number_8 (by decide) ?_
  refine lv_icmp_ge (tgt := 82) hx hb d_O_number_9 (by decide) (fun h9 => absurd h9 (by decide +kernel)) (fun _ => ?_)
  refine lv_aload_n hx hb d_O_number_12 rfl (lv_at hl 1 rfl) ?_
  refine va_get (D := (dC, dI)) (ci := 7) (v := .int (nI ab)) (C := R_O) (T := F_O) (N := 27) hx hb hw0 in_O hown hK hP 0 rfl rfl 24 (by decide) (hw0 (.fieldLink R_O 103 "TextKeeperModel" "at" "I") (List.mem_of_getElem? (i := 180) rfl)) (fun _ h9 => h9) rfl d_O_number_13 ?_
  refine lv_aload_n hx hb d_O_number_16 rfl (lv_at hl 1 rfl) ?_
  refine va_get (D := (dC, dI)) (ci := 7) (v := .int (nI en)) (C := R_O) (T := F_O) (N := 27) hx hb hw0 in_O hown hK hP 0 rfl rfl 25 (by decide) (hw0 (.fieldLink R_O 106 "TextKeeperModel" "end" "I") (List.mem_of_getElem? (i := 181) rfl)) (fun _ h9 => h9) rfl d_O_number_17 ?_
  refine lv_icmp_ne (tgt := 25) hx hb d_O_number_20 (by decide) (fun c_1 => ?_) (fun c_1 => ?_)
  · have hA_3 : a < S.length := (by rcases Nat.lt_or_ge (a) S.length with z | z; exact z; exact absurd (show nI (ab) = nI en from congrArg nI (by omega)) c_1)
    refine lv_aload_n hx hb d_O_number_25 rfl (lv_at hl 1 rfl) ?_
    refine va_get (D := (dC, dI)) (ci := 7) (v := .ref hrow) (C := R_O) (T := F_O) (N := 27) hx hb hw0 in_O hown hK hP 0 rfl rfl 12 (by decide) (hw0 (.fieldLink R_O 38 "TextKeeperModel" "row" "[B") (List.mem_of_getElem? (i := 182) rfl)) (fun _ h9 => h9) rfl d_O_number_26 ?_
    refine lv_aload_n hx hb d_O_number_29 rfl (lv_at hl 1 rfl) ?_
    refine va_get (D := (dC, dI)) (ci := 7) (v := .int (nI ab)) (C := R_O) (T := F_O) (N := 27) hx hb hw0 in_O hown hK hP 0 rfl rfl 24 (by decide) (hw0 (.fieldLink R_O 103 "TextKeeperModel" "at" "I") (List.mem_of_getElem? (i := 180) rfl)) (fun _ h9 => h9) rfl d_O_number_30 ?_
    refine va_bald hx hb hK hP 1 0 rfl rfl (vp_in_nI (by omega) (by decide)) d_O_number_33 ?_
    refine lv_topi (fun x_4 ex_4 => ?_)
    refine lv_sipush (v := 255) hx hb d_O_number_34 (by decide +kernel) ?_
    refine lv_iand hx hb d_O_number_37 ?_
    refine lv_topi (fun x_5 ex_5 => ?_)
    obtain rfl : x_5 = (nI (byv S a)) := by rw [ex_5, ex_4]; exact ld_sx hsx (by omega) (by omega)
    clear ex_5
    refine lv_istore_n (lv' := [(2, .int (nI (byv S a))), (1, .int 0), (0, .ref h0)]) hx hb d_O_number_38 rfl hl (by decide) rfl (fun ls hl => ?_)
    refine lv_aload_n hx hb d_O_number_39 rfl (lv_at hl 2 rfl) ?_
    refine lv_dup hx hb d_O_number_40 rfl ?_
    refine va_get (D := (dC, dI)) (ci := 7) (v := .int (nI ab)) (C := R_O) (T := F_O) (N := 27) hx hb hw0 in_O hown hK hP 0 rfl rfl 24 (by decide) (hw0 (.fieldLink R_O 103 "TextKeeperModel" "at" "I") (List.mem_of_getElem? (i := 180) rfl)) (fun _ h9 => h9) rfl d_O_number_41 ?_
    refine lv_iconst (v := 1) hx hb d_O_number_44 (by decide) ?_
    refine lv_iadd hx hb d_O_number_45 ?_
    refine lv_topi (fun x_6 ex_6 => ?_)
    obtain rfl : x_6 = (nI (ab + 1)) := by rw [ex_6]; exact nI_1 (ab)
    clear ex_6
    refine va_put (D := (dC, dI)) (ci := 7) (v := .int (nI (ab + 1))) (ty := .int) (C := R_O) (T := F_O) (N := 27) hx hb hw0 in_O ft_O tk_O nk_O hown hK hP hD hS 0 rfl rfl 24 (by decide) (hw0 (.fieldLink R_O 103 "TextKeeperModel" "at" "I") (List.mem_of_getElem? (i := 180) rfl)) (fun _ h9 => h9) rfl (by decide +kernel) rfl rfl (Nat.le_of_ble_eq_true rfl) d_O_number_46 (fun H locs hP hD hS => ?_)
    replace hP : va_P (dC, dI) vwCl [(h0, .inr (7, [.int i_thrown, .int i_down, .int i_lasts, v_buffer, .int i_size, .int i_documents, v_gone, v_first, v_many, v_lengths, v_authors, v_sums, .ref hrow, v_made, .int i_madeSize, v_base, .int i_baseSize, v_text, .int i_textSize, .int i_textSteps, v_other, .int i_otherSize, v_piece, .int i_pieceSize, .int (nI (ab + 1)), .int (nI en), .int 0])), (hrow, .inl (cW, 16384, .inl (fr)))] H := hP
    replace hD : va_D A [(h0, .inr (7, [.int i_thrown, .int i_down, .int i_lasts, v_buffer, .int i_size, .int i_documents, v_gone, v_first, v_many, v_lengths, v_authors, v_sums, .ref hrow, v_made, .int i_madeSize, v_base, .int i_baseSize, v_text, .int i_textSize, .int i_textSteps, v_other, .int i_otherSize, v_piece, .int i_pieceSize, .int (nI (ab + 1)), .int (nI en), .int 0])), (hrow, .inl (cW, 16384, .inl (fr)))] := hD
    refine lv_aload_n hx hb d_O_number_49 rfl (lv_at hl 2 rfl) ?_
    refine lv_dup hx hb d_O_number_50 rfl ?_
    refine va_get (D := (dC, dI)) (ci := 7) (v := .int 0) (C := R_O) (T := F_O) (N := 27) hx hb hw0 in_O hown hK hP 0 rfl rfl 26 (by decide) (hw0 (.fieldLink R_O 100 "TextKeeperModel" "value" "I") (List.mem_of_getElem? (i := 179) rfl)) (fun _ h9 => h9) rfl d_O_number_51 ?_
    refine lv_iload_n hx hb d_O_number_54 rfl (lv_at hl 0 rfl) ?_
    refine lv_bipush (v := 127) hx hb d_O_number_55 (by decide +kernel) ?_
    refine lv_iand hx hb d_O_number_57 ?_
    refine lv_topi (fun x_7 ex_7 => ?_)
    obtain rfl : x_7 = (nI (byv S a % 128)) := by rw [ex_7]; exact an_127 _ (byv_lt _ _)
    clear ex_7
    refine lv_bipush (v := 7) hx hb d_O_number_58 (by decide +kernel) ?_
    refine lv_iload_n hx hb d_O_number_60 rfl (lv_at hl 1 rfl) ?_
    refine lv_imul hx hb d_O_number_61 ?_
    refine lv_topi (fun x_8 ex_8 => ?_)
    obtain rfl : x_8 = 0 := ex_8.trans (by decide +kernel)
    clear ex_8
    refine lv_ishl hx hb d_O_number_62 ?_
    refine lv_topi (fun x_9 ex_9 => ?_)
    obtain rfl : x_9 = (nI (byv S a % 128)) := by rw [ex_9]; exact sh_0 _ (Nat.mod_lt _ (by decide))
    clear ex_9
    refine lv_iadd hx hb d_O_number_63 ?_
    refine lv_topi (fun x_10 ex_10 => ?_)
    obtain rfl : x_10 = (nI (byv S a % 128)) := by rw [ex_10]; exact Int32.zero_add _
    clear ex_10
    refine va_put (D := (dC, dI)) (ci := 7) (v := .int (nI (byv S a % 128))) (ty := .int) (C := R_O) (T := F_O) (N := 27) hx hb hw0 in_O ft_O tk_O nk_O hown hK hP hD hS 0 rfl rfl 26 (by decide) (hw0 (.fieldLink R_O 100 "TextKeeperModel" "value" "I") (List.mem_of_getElem? (i := 179) rfl)) (fun _ h9 => h9) rfl (by decide +kernel) rfl rfl (Nat.le_of_ble_eq_true rfl) d_O_number_64 (fun H locs hP hD hS => ?_)
    replace hP : va_P (dC, dI) vwCl [(h0, .inr (7, [.int i_thrown, .int i_down, .int i_lasts, v_buffer, .int i_size, .int i_documents, v_gone, v_first, v_many, v_lengths, v_authors, v_sums, .ref hrow, v_made, .int i_madeSize, v_base, .int i_baseSize, v_text, .int i_textSize, .int i_textSteps, v_other, .int i_otherSize, v_piece, .int i_pieceSize, .int (nI (ab + 1)), .int (nI en), .int (nI (byv S a % 128))])), (hrow, .inl (cW, 16384, .inl (fr)))] H := hP
    replace hD : va_D A [(h0, .inr (7, [.int i_thrown, .int i_down, .int i_lasts, v_buffer, .int i_size, .int i_documents, v_gone, v_first, v_many, v_lengths, v_authors, v_sums, .ref hrow, v_made, .int i_madeSize, v_base, .int i_baseSize, v_text, .int i_textSize, .int i_textSteps, v_other, .int i_otherSize, v_piece, .int i_pieceSize, .int (nI (ab + 1)), .int (nI en), .int (nI (byv S a % 128))])), (hrow, .inl (cW, 16384, .inl (fr)))] := hD
    refine lv_iload_n hx hb d_O_number_67 rfl (lv_at hl 0 rfl) ?_
    refine lv_sipush (v := 128) hx hb d_O_number_68 (by decide +kernel) ?_
    refine lv_icmp_ge (tgt := 76) hx hb d_O_number_71 (by decide) (fun c_11 => ?_) (fun c_11 => ?_)
    · have hV_13 : ¬ byv S a < 128 := (fun z => absurd (nI_lt z (by decide)) (Int32.not_lt.mpr c_11))
      refine lv_iinc (v := 1) (lv' := [(1, .int 1), (2, .int (nI (byv S a))), (0, .ref h0)]) hx hb d_O_number_76 hl (k := 1) rfl (by decide +kernel) (by decide) rfl (fun ls hl => ?_)
      refine lv_goto (tgt := 7) hx hb d_O_number_79 (by decide) ?_
      refine lv_iload_n hx hb d_O_number_7 rfl (lv_at hl 0 rfl) ?_
      refine lv_iconst (v := 3) hx hb d_O_number_8 (by decide) ?_
      refine lv_icmp_ge (tgt := 82) hx hb d_O_number_9 (by decide) (fun h9 => absurd h9 (by decide +kernel)) (fun _ => ?_)
      refine lv_aload_n hx hb d_O_number_12 rfl (lv_at hl 2 rfl) ?_
      refine va_get (D := (dC, dI)) (ci := 7) (v := .int (nI (ab + 1))) (C := R_O) (T := F_O) (N := 27) hx hb hw0 in_O hown hK hP 0 rfl rfl 24 (by decide) (hw0 (.fieldLink R_O 103 "TextKeeperModel" "at" "I") (List.mem_of_getElem? (i := 180) rfl)) (fun _ h9 => h9) rfl d_O_number_13 ?_
      refine lv_aload_n hx hb d_O_number_16 rfl (lv_at hl 2 rfl) ?_
      refine va_get (D := (dC, dI)) (ci := 7) (v := .int (nI en)) (C := R_O) (T := F_O) (N := 27) hx hb hw0 in_O hown hK hP 0 rfl rfl 25 (by decide) (hw0 (.fieldLink R_O 106 "TextKeeperModel" "end" "I") (List.mem_of_getElem? (i := 181) rfl)) (fun _ h9 => h9) rfl d_O_number_17 ?_
      refine lv_icmp_ne (tgt := 25) hx hb d_O_number_20 (by decide) (fun c_14 => ?_) (fun c_14 => ?_)
      · have hA_16 : a + 1 < S.length := (by rcases Nat.lt_or_ge (a + 1) S.length with z | z; exact z; exact absurd (show nI (ab + 1) = nI en from congrArg nI (by omega)) c_14)
        refine lv_aload_n hx hb d_O_number_25 rfl (lv_at hl 2 rfl) ?_
        refine va_get (D := (dC, dI)) (ci := 7) (v := .ref hrow) (C := R_O) (T := F_O) (N := 27) hx hb hw0 in_O hown hK hP 0 rfl rfl 12 (by decide) (hw0 (.fieldLink R_O 38 "TextKeeperModel" "row" "[B") (List.mem_of_getElem? (i := 182) rfl)) (fun _ h9 => h9) rfl d_O_number_26 ?_
        refine lv_aload_n hx hb d_O_number_29 rfl (lv_at hl 2 rfl) ?_
        refine va_get (D := (dC, dI)) (ci := 7) (v := .int (nI (ab + 1))) (C := R_O) (T := F_O) (N := 27) hx hb hw0 in_O hown hK hP 0 rfl rfl 24 (by decide) (hw0 (.fieldLink R_O 103 "TextKeeperModel" "at" "I") (List.mem_of_getElem? (i := 180) rfl)) (fun _ h9 => h9) rfl d_O_number_30 ?_
        refine va_bald hx hb hK hP 1 0 rfl rfl (vp_in_nI (by omega) (by decide)) d_O_number_33 ?_
        refine lv_topi (fun x_17 ex_17 => ?_)
        refine lv_sipush (v := 255) hx hb d_O_number_34 (by decide +kernel) ?_
        refine lv_iand hx hb d_O_number_37 ?_
        refine lv_topi (fun x_18 ex_18 => ?_)
        obtain rfl : x_18 = (nI (byv S (a + 1))) := by rw [ex_18, ex_17]; exact ld_sx hsx (by omega) (by omega)
        clear ex_18
        refine lv_istore_n (lv' := [(2, .int (nI (byv S (a + 1)))), (1, .int 1), (0, .ref h0)]) hx hb d_O_number_38 rfl hl (by decide) rfl (fun ls hl => ?_)
        refine lv_aload_n hx hb d_O_number_39 rfl (lv_at hl 2 rfl) ?_
        refine lv_dup hx hb d_O_number_40 rfl ?_
        refine va_get (D := (dC, dI)) (ci := 7) (v := .int (nI (ab + 1))) (C := R_O) (T := F_O) (N := 27) hx hb hw0 in_O hown hK hP 0 rfl rfl 24 (by decide) (hw0 (.fieldLink R_O 103 "TextKeeperModel" "at" "I") (List.mem_of_getElem? (i := 180) rfl)) (fun _ h9 => h9) rfl d_O_number_41 ?_
        refine lv_iconst (v := 1) hx hb d_O_number_44 (by decide) ?_
        refine lv_iadd hx hb d_O_number_45 ?_
        refine lv_topi (fun x_19 ex_19 => ?_)
        obtain rfl : x_19 = (nI (ab + 1 + 1)) := by rw [ex_19]; exact nI_1 (ab + 1)
        clear ex_19
        refine va_put (D := (dC, dI)) (ci := 7) (v := .int (nI (ab + 1 + 1))) (ty := .int) (C := R_O) (T := F_O) (N := 27) hx hb hw0 in_O ft_O tk_O nk_O hown hK hP hD hS 0 rfl rfl 24 (by decide) (hw0 (.fieldLink R_O 103 "TextKeeperModel" "at" "I") (List.mem_of_getElem? (i := 180) rfl)) (fun _ h9 => h9) rfl (by decide +kernel) rfl rfl (Nat.le_of_ble_eq_true rfl) d_O_number_46 (fun H locs hP hD hS => ?_)
        replace hP : va_P (dC, dI) vwCl [(h0, .inr (7, [.int i_thrown, .int i_down, .int i_lasts, v_buffer, .int i_size, .int i_documents, v_gone, v_first, v_many, v_lengths, v_authors, v_sums, .ref hrow, v_made, .int i_madeSize, v_base, .int i_baseSize, v_text, .int i_textSize, .int i_textSteps, v_other, .int i_otherSize, v_piece, .int i_pieceSize, .int (nI (ab + 1 + 1)), .int (nI en), .int (nI (byv S a % 128))])), (hrow, .inl (cW, 16384, .inl (fr)))] H := hP
        replace hD : va_D A [(h0, .inr (7, [.int i_thrown, .int i_down, .int i_lasts, v_buffer, .int i_size, .int i_documents, v_gone, v_first, v_many, v_lengths, v_authors, v_sums, .ref hrow, v_made, .int i_madeSize, v_base, .int i_baseSize, v_text, .int i_textSize, .int i_textSteps, v_other, .int i_otherSize, v_piece, .int i_pieceSize, .int (nI (ab + 1 + 1)), .int (nI en), .int (nI (byv S a % 128))])), (hrow, .inl (cW, 16384, .inl (fr)))] := hD
        refine lv_aload_n hx hb d_O_number_49 rfl (lv_at hl 2 rfl) ?_
        refine lv_dup hx hb d_O_number_50 rfl ?_
        refine va_get (D := (dC, dI)) (ci := 7) (v := .int (nI (byv S a % 128))) (C := R_O) (T := F_O) (N := 27) hx hb hw0 in_O hown hK hP 0 rfl rfl 26 (by decide) (hw0 (.fieldLink R_O 100 "TextKeeperModel" "value" "I") (List.mem_of_getElem? (i := 179) rfl)) (fun _ h9 => h9) rfl d_O_number_51 ?_
        refine lv_iload_n hx hb d_O_number_54 rfl (lv_at hl 0 rfl) ?_
        refine lv_bipush (v := 127) hx hb d_O_number_55 (by decide +kernel) ?_
        refine lv_iand hx hb d_O_number_57 ?_
        refine lv_topi (fun x_20 ex_20 => ?_)
        obtain rfl : x_20 = (nI (byv S (a + 1) % 128)) := by rw [ex_20]; exact an_127 _ (byv_lt _ _)
        clear ex_20
        refine lv_bipush (v := 7) hx hb d_O_number_58 (by decide +kernel) ?_
        refine lv_iload_n hx hb d_O_number_60 rfl (lv_at hl 1 rfl) ?_
        refine lv_imul hx hb d_O_number_61 ?_
        refine lv_topi (fun x_21 ex_21 => ?_)
        obtain rfl : x_21 = 7 := ex_21.trans (by decide +kernel)
        clear ex_21
        refine lv_ishl hx hb d_O_number_62 ?_
        refine lv_topi (fun x_22 ex_22 => ?_)
        obtain rfl : x_22 = (nI (byv S (a + 1) % 128 * 128)) := by rw [ex_22]; exact sh_7 _ (Nat.mod_lt _ (by decide))
        clear ex_22
        refine lv_iadd hx hb d_O_number_63 ?_
        refine lv_topi (fun x_23 ex_23 => ?_)
        obtain rfl : x_23 = (nI (byv S a % 128 + byv S (a + 1) % 128 * 128)) := by rw [ex_23]; exact nI_add (byv S a % 128) (byv S (a + 1) % 128 * 128)
        clear ex_23
        refine va_put (D := (dC, dI)) (ci := 7) (v := .int (nI (byv S a % 128 + byv S (a + 1) % 128 * 128))) (ty := .int) (C := R_O) (T := F_O) (N := 27) hx hb hw0 in_O ft_O tk_O nk_O hown hK hP hD hS 0 rfl rfl 26 (by decide) (hw0 (.fieldLink R_O 100 "TextKeeperModel" "value" "I") (List.mem_of_getElem? (i := 179) rfl)) (fun _ h9 => h9) rfl (by decide +kernel) rfl rfl (Nat.le_of_ble_eq_true rfl) d_O_number_64 (fun H locs hP hD hS => ?_)
        replace hP : va_P (dC, dI) vwCl [(h0, .inr (7, [.int i_thrown, .int i_down, .int i_lasts, v_buffer, .int i_size, .int i_documents, v_gone, v_first, v_many, v_lengths, v_authors, v_sums, .ref hrow, v_made, .int i_madeSize, v_base, .int i_baseSize, v_text, .int i_textSize, .int i_textSteps, v_other, .int i_otherSize, v_piece, .int i_pieceSize, .int (nI (ab + 1 + 1)), .int (nI en), .int (nI (byv S a % 128 + byv S (a + 1) % 128 * 128))])), (hrow, .inl (cW, 16384, .inl (fr)))] H := hP
        replace hD : va_D A [(h0, .inr (7, [.int i_thrown, .int i_down, .int i_lasts, v_buffer, .int i_size, .int i_documents, v_gone, v_first, v_many, v_lengths, v_authors, v_sums, .ref hrow, v_made, .int i_madeSize, v_base, .int i_baseSize, v_text, .int i_textSize, .int i_textSteps, v_other, .int i_otherSize, v_piece, .int i_pieceSize, .int (nI (ab + 1 + 1)), .int (nI en), .int (nI (byv S a % 128 + byv S (a + 1) % 128 * 128))])), (hrow, .inl (cW, 16384, .inl (fr)))] := hD
        refine lv_iload_n hx hb d_O_number_67 rfl (lv_at hl 0 rfl) ?_
        refine lv_sipush (v := 128) hx hb d_O_number_68 (by decide +kernel) ?_
        refine lv_icmp_ge (tgt := 76) hx hb d_O_number_71 (by decide) (fun c_24 => ?_) (fun c_24 => ?_)
        · have hV_26 : ¬ byv S (a + 1) < 128 := (fun z => absurd (nI_lt z (by decide)) (Int32.not_lt.mpr c_24))
          refine lv_iinc (v := 2) (lv' := [(1, .int 2), (2, .int (nI (byv S (a + 1)))), (0, .ref h0)]) hx hb d_O_number_76 hl (k := 1) rfl (by decide +kernel) (by decide) rfl (fun ls hl => ?_)
          refine lv_goto (tgt := 7) hx hb d_O_number_79 (by decide) ?_
          refine lv_iload_n hx hb d_O_number_7 rfl (lv_at hl 0 rfl) ?_
          refine lv_iconst (v := 3) hx hb d_O_number_8 (by decide) ?_
          refine lv_icmp_ge (tgt := 82) hx hb d_O_number_9 (by decide) (fun h9 => absurd h9 (by decide +kernel)) (fun _ => ?_)
          refine lv_aload_n hx hb d_O_number_12 rfl (lv_at hl 2 rfl) ?_
          refine va_get (D := (dC, dI)) (ci := 7) (v := .int (nI (ab + 1 + 1))) (C := R_O) (T := F_O) (N := 27) hx hb hw0 in_O hown hK hP 0 rfl rfl 24 (by decide) (hw0 (.fieldLink R_O 103 "TextKeeperModel" "at" "I") (List.mem_of_getElem? (i := 180) rfl)) (fun _ h9 => h9) rfl d_O_number_13 ?_
          refine lv_aload_n hx hb d_O_number_16 rfl (lv_at hl 2 rfl) ?_
          refine va_get (D := (dC, dI)) (ci := 7) (v := .int (nI en)) (C := R_O) (T := F_O) (N := 27) hx hb hw0 in_O hown hK hP 0 rfl rfl 25 (by decide) (hw0 (.fieldLink R_O 106 "TextKeeperModel" "end" "I") (List.mem_of_getElem? (i := 181) rfl)) (fun _ h9 => h9) rfl d_O_number_17 ?_
          refine lv_icmp_ne (tgt := 25) hx hb d_O_number_20 (by decide) (fun c_27 => ?_) (fun c_27 => ?_)
          · have hA_29 : a + 1 + 1 < S.length := (by rcases Nat.lt_or_ge (a + 1 + 1) S.length with z | z; exact z; exact absurd (show nI (ab + 1 + 1) = nI en from congrArg nI (by omega)) c_27)
            refine lv_aload_n hx hb d_O_number_25 rfl (lv_at hl 2 rfl) ?_
            refine va_get (D := (dC, dI)) (ci := 7) (v := .ref hrow) (C := R_O) (T := F_O) (N := 27) hx hb hw0 in_O hown hK hP 0 rfl rfl 12 (by decide) (hw0 (.fieldLink R_O 38 "TextKeeperModel" "row" "[B") (List.mem_of_getElem? (i := 182) rfl)) (fun _ h9 => h9) rfl d_O_number_26 ?_
            refine lv_aload_n hx hb d_O_number_29 rfl (lv_at hl 2 rfl) ?_
            refine va_get (D := (dC, dI)) (ci := 7) (v := .int (nI (ab + 1 + 1))) (C := R_O) (T := F_O) (N := 27) hx hb hw0 in_O hown hK hP 0 rfl rfl 24 (by decide) (hw0 (.fieldLink R_O 103 "TextKeeperModel" "at" "I") (List.mem_of_getElem? (i := 180) rfl)) (fun _ h9 => h9) rfl d_O_number_30 ?_
            refine va_bald hx hb hK hP 1 0 rfl rfl (vp_in_nI (by omega) (by decide)) d_O_number_33 ?_
            refine lv_topi (fun x_30 ex_30 => ?_)
            refine lv_sipush (v := 255) hx hb d_O_number_34 (by decide +kernel) ?_
            refine lv_iand hx hb d_O_number_37 ?_
            refine lv_topi (fun x_31 ex_31 => ?_)
            obtain rfl : x_31 = (nI (byv S (a + 1 + 1))) := by rw [ex_31, ex_30]; exact ld_sx hsx (by omega) (by omega)
            clear ex_31
            refine lv_istore_n (lv' := [(2, .int (nI (byv S (a + 1 + 1)))), (1, .int 2), (0, .ref h0)]) hx hb d_O_number_38 rfl hl (by decide) rfl (fun ls hl => ?_)
            refine lv_aload_n hx hb d_O_number_39 rfl (lv_at hl 2 rfl) ?_
            refine lv_dup hx hb d_O_number_40 rfl ?_
            refine va_get (D := (dC, dI)) (ci := 7) (v := .int (nI (ab + 1 + 1))) (C := R_O) (T := F_O) (N := 27) hx hb hw0 in_O hown hK hP 0 rfl rfl 24 (by decide) (hw0 (.fieldLink R_O 103 "TextKeeperModel" "at" "I") (List.mem_of_getElem? (i := 180) rfl)) (fun _ h9 => h9) rfl d_O_number_41 ?_
            refine lv_iconst (v := 1) hx hb d_O_number_44 (by decide) ?_
            refine lv_iadd hx hb d_O_number_45 ?_
            refine lv_topi (fun x_32 ex_32 => ?_)
            obtain rfl : x_32 = (nI (ab + 1 + 1 + 1)) := by rw [ex_32]; exact nI_1 (ab + 1 + 1)
            clear ex_32
            refine va_put (D := (dC, dI)) (ci := 7) (v := .int (nI (ab + 1 + 1 + 1))) (ty := .int) (C := R_O) (T := F_O) (N := 27) hx hb hw0 in_O ft_O tk_O nk_O hown hK hP hD hS 0 rfl rfl 24 (by decide) (hw0 (.fieldLink R_O 103 "TextKeeperModel" "at" "I") (List.mem_of_getElem? (i := 180) rfl)) (fun _ h9 => h9) rfl (by decide +kernel) rfl rfl (Nat.le_of_ble_eq_true rfl) d_O_number_46 (fun H locs hP hD hS => ?_)
            replace hP : va_P (dC, dI) vwCl [(h0, .inr (7, [.int i_thrown, .int i_down, .int i_lasts, v_buffer, .int i_size, .int i_documents, v_gone, v_first, v_many, v_lengths, v_authors, v_sums, .ref hrow, v_made, .int i_madeSize, v_base, .int i_baseSize, v_text, .int i_textSize, .int i_textSteps, v_other, .int i_otherSize, v_piece, .int i_pieceSize, .int (nI (ab + 1 + 1 + 1)), .int (nI en), .int (nI (byv S a % 128 + byv S (a + 1) % 128 * 128))])), (hrow, .inl (cW, 16384, .inl (fr)))] H := hP
            replace hD : va_D A [(h0, .inr (7, [.int i_thrown, .int i_down, .int i_lasts, v_buffer, .int i_size, .int i_documents, v_gone, v_first, v_many, v_lengths, v_authors, v_sums, .ref hrow, v_made, .int i_madeSize, v_base, .int i_baseSize, v_text, .int i_textSize, .int i_textSteps, v_other, .int i_otherSize, v_piece, .int i_pieceSize, .int (nI (ab + 1 + 1 + 1)), .int (nI en), .int (nI (byv S a % 128 + byv S (a + 1) % 128 * 128))])), (hrow, .inl (cW, 16384, .inl (fr)))] := hD
            refine lv_aload_n hx hb d_O_number_49 rfl (lv_at hl 2 rfl) ?_
            refine lv_dup hx hb d_O_number_50 rfl ?_
            refine va_get (D := (dC, dI)) (ci := 7) (v := .int (nI (byv S a % 128 + byv S (a + 1) % 128 * 128))) (C := R_O) (T := F_O) (N := 27) hx hb hw0 in_O hown hK hP 0 rfl rfl 26 (by decide) (hw0 (.fieldLink R_O 100 "TextKeeperModel" "value" "I") (List.mem_of_getElem? (i := 179) rfl)) (fun _ h9 => h9) rfl d_O_number_51 ?_
            refine lv_iload_n hx hb d_O_number_54 rfl (lv_at hl 0 rfl) ?_
            refine lv_bipush (v := 127) hx hb d_O_number_55 (by decide +kernel) ?_
            refine lv_iand hx hb d_O_number_57 ?_
            refine lv_topi (fun x_33 ex_33 => ?_)
            obtain rfl : x_33 = (nI (byv S (a + 1 + 1) % 128)) := by rw [ex_33]; exact an_127 _ (byv_lt _ _)
            clear ex_33
            refine lv_bipush (v := 7) hx hb d_O_number_58 (by decide +kernel) ?_
            refine lv_iload_n hx hb d_O_number_60 rfl (lv_at hl 1 rfl) ?_
            refine lv_imul hx hb d_O_number_61 ?_
            refine lv_topi (fun x_34 ex_34 => ?_)
            obtain rfl : x_34 = 14 := ex_34.trans (by decide +kernel)
            clear ex_34
            refine lv_ishl hx hb d_O_number_62 ?_
            refine lv_topi (fun x_35 ex_35 => ?_)
            obtain rfl : x_35 = (nI (byv S (a + 1 + 1) % 128 * 16384)) := by rw [ex_35]; exact sh_14 _ (Nat.mod_lt _ (by decide))
            clear ex_35
            refine lv_iadd hx hb d_O_number_63 ?_
            refine lv_topi (fun x_36 ex_36 => ?_)
            obtain rfl : x_36 = (nI (byv S a % 128 + byv S (a + 1) % 128 * 128 + byv S (a + 1 + 1) % 128 * 16384)) := by rw [ex_36]; exact nI_add (byv S a % 128 + byv S (a + 1) % 128 * 128) (byv S (a + 1 + 1) % 128 * 16384)
            clear ex_36
            refine va_put (D := (dC, dI)) (ci := 7) (v := .int (nI (byv S a % 128 + byv S (a + 1) % 128 * 128 + byv S (a + 1 + 1) % 128 * 16384))) (ty := .int) (C := R_O) (T := F_O) (N := 27) hx hb hw0 in_O ft_O tk_O nk_O hown hK hP hD hS 0 rfl rfl 26 (by decide) (hw0 (.fieldLink R_O 100 "TextKeeperModel" "value" "I") (List.mem_of_getElem? (i := 179) rfl)) (fun _ h9 => h9) rfl (by decide +kernel) rfl rfl (Nat.le_of_ble_eq_true rfl) d_O_number_64 (fun H locs hP hD hS => ?_)
            replace hP : va_P (dC, dI) vwCl [(h0, .inr (7, [.int i_thrown, .int i_down, .int i_lasts, v_buffer, .int i_size, .int i_documents, v_gone, v_first, v_many, v_lengths, v_authors, v_sums, .ref hrow, v_made, .int i_madeSize, v_base, .int i_baseSize, v_text, .int i_textSize, .int i_textSteps, v_other, .int i_otherSize, v_piece, .int i_pieceSize, .int (nI (ab + 1 + 1 + 1)), .int (nI en), .int (nI (byv S a % 128 + byv S (a + 1) % 128 * 128 + byv S (a + 1 + 1) % 128 * 16384))])), (hrow, .inl (cW, 16384, .inl (fr)))] H := hP
            replace hD : va_D A [(h0, .inr (7, [.int i_thrown, .int i_down, .int i_lasts, v_buffer, .int i_size, .int i_documents, v_gone, v_first, v_many, v_lengths, v_authors, v_sums, .ref hrow, v_made, .int i_madeSize, v_base, .int i_baseSize, v_text, .int i_textSize, .int i_textSteps, v_other, .int i_otherSize, v_piece, .int i_pieceSize, .int (nI (ab + 1 + 1 + 1)), .int (nI en), .int (nI (byv S a % 128 + byv S (a + 1) % 128 * 128 + byv S (a + 1 + 1) % 128 * 16384))])), (hrow, .inl (cW, 16384, .inl (fr)))] := hD
            refine lv_iload_n hx hb d_O_number_67 rfl (lv_at hl 0 rfl) ?_
            refine lv_sipush (v := 128) hx hb d_O_number_68 (by decide +kernel) ?_
            refine lv_icmp_ge (tgt := 76) hx hb d_O_number_71 (by decide) (fun c_37 => ?_) (fun c_37 => ?_)
            · have hV_39 : ¬ byv S (a + 1 + 1) < 128 := (fun z => absurd (nI_lt z (by decide)) (Int32.not_lt.mpr c_37))
              refine lv_iinc (v := 3) (lv' := [(1, .int 3), (2, .int (nI (byv S (a + 1 + 1)))), (0, .ref h0)]) hx hb d_O_number_76 hl (k := 1) rfl (by decide +kernel) (by decide) rfl (fun ls hl => ?_)
              refine lv_goto (tgt := 7) hx hb d_O_number_79 (by decide) ?_
              refine lv_iload_n hx hb d_O_number_7 rfl (lv_at hl 0 rfl) ?_
              refine lv_iconst (v := 3) hx hb d_O_number_8 (by decide) ?_
              refine lv_icmp_ge (tgt := 82) hx hb d_O_number_9 (by decide) (fun _ => ?_) (fun h9 => absurd h9 (by decide +kernel))
              refine lv_iconst (v := 0) hx hb d_O_number_82 (by decide) ?_
              have hP9 := hP.sub (ws' := [(h0, .inr (7, [.int i_thrown, .int i_down, .int i_lasts, v_buffer, .int i_size, .int i_documents, v_gone, v_first, v_many, v_lengths, v_authors, v_sums, .ref hrow, v_made, .int i_madeSize, v_base, .int i_baseSize, v_text, .int i_textSize, .int i_textSteps, v_other, .int i_otherSize, v_piece, .int i_pieceSize, .int (nI (ab + 1 + 1 + 1)), .int (nI en), .int (nI (byv S a % 128 + byv S (a + 1) % 128 * 128 + byv S (a + 1 + 1) % 128 * 16384))])), (hrow, .inl (cW, 16384, .inl (fr)))]) [0, 1] rfl
              have hD9 := hD.sub (ws' := [(h0, .inr (7, [.int i_thrown, .int i_down, .int i_lasts, v_buffer, .int i_size, .int i_documents, v_gone, v_first, v_many, v_lengths, v_authors, v_sums, .ref hrow, v_made, .int i_madeSize, v_base, .int i_baseSize, v_text, .int i_textSize, .int i_textSteps, v_other, .int i_otherSize, v_piece, .int i_pieceSize, .int (nI (ab + 1 + 1 + 1)), .int (nI en), .int (nI (byv S a % 128 + byv S (a + 1) % 128 * 128 + byv S (a + 1 + 1) % 128 * 16384))])), (hrow, .inl (cW, 16384, .inl (fr)))]) [0, 1] (by decide) rfl
              have hK9 := hK.sub (tys' := [(cW, .byte)]) [0] rfl
              exact W.zret (v := 0) (ty := .boolean) hx hb hr rfl (fun t ht hW => ⟨⟨0, (), rfl, (by rw [rd, if_neg (by omega), if_neg (by omega), if_neg (by omega), if_neg (by omega), if_neg (by omega), if_neg (by omega)]; rfl), (ab + 1 + 1 + 1), (nI (byv S a % 128 + byv S (a + 1) % 128 * 128 + byv S (a + 1 + 1) % 128 * 16384)), (by rw [rd, if_neg (by omega), if_neg (by omega), if_neg (by omega), if_neg (by omega), if_neg (by omega), if_neg (by omega)]; exact ⟨(by simp only; omega), fun v h => by cases h <;> rfl⟩), by rw [ht]; exact hP9, va_K.moved hW.alike hK9, hD9⟩, hS.F ht⟩) hS.2.2 d_O_number_83
            · have hV_38 : byv S (a + 1 + 1) < 128 := (by rcases Nat.lt_or_ge (byv S (a + 1 + 1)) 128 with z | z; exact z; exact absurd (show nI 128 ≤ nI (byv S (a + 1 + 1)) from nI_le z (Nat.lt_trans (byv_lt _ _) (by decide))) c_37)
              refine lv_iconst (v := 1) hx hb d_O_number_74 (by decide) ?_
              have hP9 := hP.sub (ws' := [(h0, .inr (7, [.int i_thrown, .int i_down, .int i_lasts, v_buffer, .int i_size, .int i_documents, v_gone, v_first, v_many, v_lengths, v_authors, v_sums, .ref hrow, v_made, .int i_madeSize, v_base, .int i_baseSize, v_text, .int i_textSize, .int i_textSteps, v_other, .int i_otherSize, v_piece, .int i_pieceSize, .int (nI (ab + 1 + 1 + 1)), .int (nI en), .int (nI (byv S a % 128 + byv S (a + 1) % 128 * 128 + byv S (a + 1 + 1) % 128 * 16384))])), (hrow, .inl (cW, 16384, .inl (fr)))]) [0, 1] rfl
              have hD9 := hD.sub (ws' := [(h0, .inr (7, [.int i_thrown, .int i_down, .int i_lasts, v_buffer, .int i_size, .int i_documents, v_gone, v_first, v_many, v_lengths, v_authors, v_sums, .ref hrow, v_made, .int i_madeSize, v_base, .int i_baseSize, v_text, .int i_textSize, .int i_textSteps, v_other, .int i_otherSize, v_piece, .int i_pieceSize, .int (nI (ab + 1 + 1 + 1)), .int (nI en), .int (nI (byv S a % 128 + byv S (a + 1) % 128 * 128 + byv S (a + 1 + 1) % 128 * 16384))])), (hrow, .inl (cW, 16384, .inl (fr)))]) [0, 1] (by decide) rfl
              have hK9 := hK.sub (tys' := [(cW, .byte)]) [0] rfl
              exact W.zret (v := 1) (ty := .boolean) hx hb hr rfl (fun t ht hW => ⟨⟨1, (), rfl, (by rw [rd, if_neg (by omega), if_neg (by omega), if_neg (by omega), if_neg (by omega), if_neg (by omega), if_pos (by omega)]; rfl), (ab + 1 + 1 + 1), (nI (byv S a % 128 + byv S (a + 1) % 128 * 128 + byv S (a + 1 + 1) % 128 * 16384)), (by rw [rd, if_neg (by omega), if_neg (by omega), if_neg (by omega), if_neg (by omega), if_neg (by omega), if_pos (by omega)]; exact ⟨(by simp only; omega), fun v h => by cases h <;> rfl⟩), by rw [ht]; exact hP9, va_K.moved hW.alike hK9, hD9⟩, hS.F ht⟩) hS.2.2 d_O_number_75
          · have hA_28 : ¬ a + 1 + 1 < S.length := (by have h8 := (nI_eq (by omega) (by omega)).mp c_27; omega)
            refine lv_iconst (v := 0) hx hb d_O_number_23 (by decide) ?_
            have hP9 := hP.sub (ws' := [(h0, .inr (7, [.int i_thrown, .int i_down, .int i_lasts, v_buffer, .int i_size, .int i_documents, v_gone, v_first, v_many, v_lengths, v_authors, v_sums, .ref hrow, v_made, .int i_madeSize, v_base, .int i_baseSize, v_text, .int i_textSize, .int i_textSteps, v_other, .int i_otherSize, v_piece, .int i_pieceSize, .int (nI (ab + 1 + 1)), .int (nI en), .int (nI (byv S a % 128 + byv S (a + 1) % 128 * 128))])), (hrow, .inl (cW, 16384, .inl (fr)))]) [0, 1] rfl
            have hD9 := hD.sub (ws' := [(h0, .inr (7, [.int i_thrown, .int i_down, .int i_lasts, v_buffer, .int i_size, .int i_documents, v_gone, v_first, v_many, v_lengths, v_authors, v_sums, .ref hrow, v_made, .int i_madeSize, v_base, .int i_baseSize, v_text, .int i_textSize, .int i_textSteps, v_other, .int i_otherSize, v_piece, .int i_pieceSize, .int (nI (ab + 1 + 1)), .int (nI en), .int (nI (byv S a % 128 + byv S (a + 1) % 128 * 128))])), (hrow, .inl (cW, 16384, .inl (fr)))]) [0, 1] (by decide) rfl
            have hK9 := hK.sub (tys' := [(cW, .byte)]) [0] rfl
            exact W.zret (v := 0) (ty := .boolean) hx hb hr rfl (fun t ht hW => ⟨⟨0, (), rfl, (by rw [rd, if_neg (by omega), if_neg (by omega), if_neg (by omega), if_neg (by omega), if_pos (by omega)]; rfl), (ab + 1 + 1), (nI (byv S a % 128 + byv S (a + 1) % 128 * 128)), (by rw [rd, if_neg (by omega), if_neg (by omega), if_neg (by omega), if_neg (by omega), if_pos (by omega)]; exact ⟨(by simp only; omega), fun v h => by cases h <;> rfl⟩), by rw [ht]; exact hP9, va_K.moved hW.alike hK9, hD9⟩, hS.F ht⟩) hS.2.2 d_O_number_24
        · have hV_25 : byv S (a + 1) < 128 := (by rcases Nat.lt_or_ge (byv S (a + 1)) 128 with z | z; exact z; exact absurd (show nI 128 ≤ nI (byv S (a + 1)) from nI_le z (Nat.lt_trans (byv_lt _ _) (by decide))) c_24)
          refine lv_iconst (v := 1) hx hb d_O_number_74 (by decide) ?_
          have hP9 := hP.sub (ws' := [(h0, .inr (7, [.int i_thrown, .int i_down, .int i_lasts, v_buffer, .int i_size, .int i_documents, v_gone, v_first, v_many, v_lengths, v_authors, v_sums, .ref hrow, v_made, .int i_madeSize, v_base, .int i_baseSize, v_text, .int i_textSize, .int i_textSteps, v_other, .int i_otherSize, v_piece, .int i_pieceSize, .int (nI (ab + 1 + 1)), .int (nI en), .int (nI (byv S a % 128 + byv S (a + 1) % 128 * 128))])), (hrow, .inl (cW, 16384, .inl (fr)))]) [0, 1] rfl
          have hD9 := hD.sub (ws' := [(h0, .inr (7, [.int i_thrown, .int i_down, .int i_lasts, v_buffer, .int i_size, .int i_documents, v_gone, v_first, v_many, v_lengths, v_authors, v_sums, .ref hrow, v_made, .int i_madeSize, v_base, .int i_baseSize, v_text, .int i_textSize, .int i_textSteps, v_other, .int i_otherSize, v_piece, .int i_pieceSize, .int (nI (ab + 1 + 1)), .int (nI en), .int (nI (byv S a % 128 + byv S (a + 1) % 128 * 128))])), (hrow, .inl (cW, 16384, .inl (fr)))]) [0, 1] (by decide) rfl
          have hK9 := hK.sub (tys' := [(cW, .byte)]) [0] rfl
          exact W.zret (v := 1) (ty := .boolean) hx hb hr rfl (fun t ht hW => ⟨⟨1, (), rfl, (by rw [rd, if_neg (by omega), if_neg (by omega), if_neg (by omega), if_pos (by omega)]; rfl), (ab + 1 + 1), (nI (byv S a % 128 + byv S (a + 1) % 128 * 128)), (by rw [rd, if_neg (by omega), if_neg (by omega), if_neg (by omega), if_pos (by omega)]; exact ⟨(by simp only; omega), fun v h => by cases h <;> rfl⟩), by rw [ht]; exact hP9, va_K.moved hW.alike hK9, hD9⟩, hS.F ht⟩) hS.2.2 d_O_number_75
      · have hA_15 : ¬ a + 1 < S.length := (by have h8 := (nI_eq (by omega) (by omega)).mp c_14; omega)
        refine lv_iconst (v := 0) hx hb d_O_number_23 (by decide) ?_
        have hP9 := hP.sub (ws' := [(h0, .inr (7, [.int i_thrown, .int i_down, .int i_lasts, v_buffer, .int i_size, .int i_documents, v_gone, v_first, v_many, v_lengths, v_authors, v_sums, .ref hrow, v_made, .int i_madeSize, v_base, .int i_baseSize, v_text, .int i_textSize, .int i_textSteps, v_other, .int i_otherSize, v_piece, .int i_pieceSize, .int (nI (ab + 1)), .int (nI en), .int (nI (byv S a % 128))])), (hrow, .inl (cW, 16384, .inl (fr)))]) [0, 1] rfl
        have hD9 := hD.sub (ws' := [(h0, .inr (7, [.int i_thrown, .int i_down, .int i_lasts, v_buffer, .int i_size, .int i_documents, v_gone, v_first, v_many, v_lengths, v_authors, v_sums, .ref hrow, v_made, .int i_madeSize, v_base, .int i_baseSize, v_text, .int i_textSize, .int i_textSteps, v_other, .int i_otherSize, v_piece, .int i_pieceSize, .int (nI (ab + 1)), .int (nI en), .int (nI (byv S a % 128))])), (hrow, .inl (cW, 16384, .inl (fr)))]) [0, 1] (by decide) rfl
        have hK9 := hK.sub (tys' := [(cW, .byte)]) [0] rfl
        exact W.zret (v := 0) (ty := .boolean) hx hb hr rfl (fun t ht hW => ⟨⟨0, (), rfl, (by rw [rd, if_neg (by omega), if_neg (by omega), if_pos (by omega)]; rfl), (ab + 1), (nI (byv S a % 128)), (by rw [rd, if_neg (by omega), if_neg (by omega), if_pos (by omega)]; exact ⟨(by simp only; omega), fun v h => by cases h <;> rfl⟩), by rw [ht]; exact hP9, va_K.moved hW.alike hK9, hD9⟩, hS.F ht⟩) hS.2.2 d_O_number_24
    · have hV_12 : byv S a < 128 := (by rcases Nat.lt_or_ge (byv S a) 128 with z | z; exact z; exact absurd (show nI 128 ≤ nI (byv S a) from nI_le z (Nat.lt_trans (byv_lt _ _) (by decide))) c_11)
      refine lv_iconst (v := 1) hx hb d_O_number_74 (by decide) ?_
      have hP9 := hP.sub (ws' := [(h0, .inr (7, [.int i_thrown, .int i_down, .int i_lasts, v_buffer, .int i_size, .int i_documents, v_gone, v_first, v_many, v_lengths, v_authors, v_sums, .ref hrow, v_made, .int i_madeSize, v_base, .int i_baseSize, v_text, .int i_textSize, .int i_textSteps, v_other, .int i_otherSize, v_piece, .int i_pieceSize, .int (nI (ab + 1)), .int (nI en), .int (nI (byv S a % 128))])), (hrow, .inl (cW, 16384, .inl (fr)))]) [0, 1] rfl
      have hD9 := hD.sub (ws' := [(h0, .inr (7, [.int i_thrown, .int i_down, .int i_lasts, v_buffer, .int i_size, .int i_documents, v_gone, v_first, v_many, v_lengths, v_authors, v_sums, .ref hrow, v_made, .int i_madeSize, v_base, .int i_baseSize, v_text, .int i_textSize, .int i_textSteps, v_other, .int i_otherSize, v_piece, .int i_pieceSize, .int (nI (ab + 1)), .int (nI en), .int (nI (byv S a % 128))])), (hrow, .inl (cW, 16384, .inl (fr)))]) [0, 1] (by decide) rfl
      have hK9 := hK.sub (tys' := [(cW, .byte)]) [0] rfl
      exact W.zret (v := 1) (ty := .boolean) hx hb hr rfl (fun t ht hW => ⟨⟨1, (), rfl, (by rw [rd, if_neg (by omega), if_pos (by omega)]; rfl), (ab + 1), (nI (byv S a % 128)), (by rw [rd, if_neg (by omega), if_pos (by omega)]; exact ⟨(by simp only; omega), fun v h => by cases h <;> rfl⟩), by rw [ht]; exact hP9, va_K.moved hW.alike hK9, hD9⟩, hS.F ht⟩) hS.2.2 d_O_number_75
  · have hA_2 : ¬ a < S.length := (by have h8 := (nI_eq (by omega) (by omega)).mp c_1; omega)
    refine lv_iconst (v := 0) hx hb d_O_number_23 (by decide) ?_
    have hP9 := hP.sub (ws' := [(h0, .inr (7, [.int i_thrown, .int i_down, .int i_lasts, v_buffer, .int i_size, .int i_documents, v_gone, v_first, v_many, v_lengths, v_authors, v_sums, .ref hrow, v_made, .int i_madeSize, v_base, .int i_baseSize, v_text, .int i_textSize, .int i_textSteps, v_other, .int i_otherSize, v_piece, .int i_pieceSize, .int (nI (ab)), .int (nI en), .int 0])), (hrow, .inl (cW, 16384, .inl (fr)))]) [0, 1] rfl
    have hD9 := hD.sub (ws' := [(h0, .inr (7, [.int i_thrown, .int i_down, .int i_lasts, v_buffer, .int i_size, .int i_documents, v_gone, v_first, v_many, v_lengths, v_authors, v_sums, .ref hrow, v_made, .int i_madeSize, v_base, .int i_baseSize, v_text, .int i_textSize, .int i_textSteps, v_other, .int i_otherSize, v_piece, .int i_pieceSize, .int (nI (ab)), .int (nI en), .int 0])), (hrow, .inl (cW, 16384, .inl (fr)))]) [0, 1] (by decide) rfl
    have hK9 := hK.sub (tys' := [(cW, .byte)]) [0] rfl
    exact W.zret (v := 0) (ty := .boolean) hx hb hr rfl (fun t ht hW => ⟨⟨0, (), rfl, (by rw [rd, if_pos (by omega)]; rfl), (ab), 0, (by rw [rd, if_pos (by omega)]; exact ⟨(by simp only; omega), fun v h => by cases h <;> rfl⟩), by rw [ht]; exact hP9, va_K.moved hW.alike hK9, hD9⟩, hS.F ht⟩) hS.2.2 d_O_number_24
set_option maxHeartbeats 4000000 in
set_option maxRecDepth 100000 in
theorem lq_mki {p : Program} {l : Launch} {e : Env} {s : State} {m : MethodId} {args : Array Value} {below : List Frame} {meth : Method} {c : Code} {dC : Nat → ClassId} {dI : Nat → Nat → Nat} {A : Nat → Prop} {Q : State → Prop} (h0 : Nat) (hba : Nat) (hta : Nat) (hpi : Nat) (hty : Nat) (cT : ClassId) (k : Nat) (T : List Int32) (hby : Nat) (cB : ClassId) (kb : Nat) (fb : Nat → Int32) (Bs : List Int32) (cP : ClassId) (np : Nat) (fp : Nat → Int32) (S : List Int32) (a : Nat) (cn : Nat) (htb : tx Bs kb fb) (hs9 : tx S np fp) (hk : k ≤ 256) (hkb : kb ≤ 256) (hn : np ≤ 16384) (hc : k + cn ≤ 256) (hac : a + cn ≤ np)
    (hx : p.tables.exec = Jvm.exec) (hb : c.code = prog_3_method_6_code) (hml : c.maxLocals = 3) (hown : s.vm.findClass R_M = some m.cls) (hw0 : ∀ w ∈ w0, w.before args s = true) (hN : nw_ok s) (hK : va_K (dC, dI) vwCl [(cT, .byte), (cB, .byte), (cP, .byte)] s) (hA : ∀ q : Nat, s.heap.size ≤ q → A q)
    (kk : ∀ (f : Nat → Int32), (tx (T ++ (S.drop a).take cn) (k + cn) f) → ∀ (H : Heap) (locs : List Loc), va_P (dC, dI) vwCl [(h0, .inr (2, [.ref hba, .ref hta, .ref hpi, .int (nI a)])), (hta, .inr (1, [.ref hty, .int (nI (k + cn))])), (hty, .inl (cT, 256, .inl (f))), (hba, .inr (1, [.ref hby, .int (nI kb)])), (hby, .inl (cB, 256, .inl (fb))), (hpi, .inl (cP, np, .inl (fp)))] H → va_D A [(h0, .inr (2, [.ref hba, .ref hta, .ref hpi, .int (nI a)])), (hta, .inr (1, [.ref hty, .int (nI (k + cn))])), (hty, .inl (cT, 256, .inl (f))), (hba, .inr (1, [.ref hby, .int (nI kb)])), (hby, .inl (cB, 256, .inl (fb))), (hpi, .inl (cP, np, .inl (fp)))] → va_S A s.heap H locs → ∀ ls : Array Slot, lv_has ls 3 [(2, .int (nI cn)), (0, .ref h0), (1, .int (nI cn))] → W p l e ({ frames := 1, cells := 0, slots := 0, locals := 21 } : Room) s m args below meth c H locs 0 0 Q (F0 m 47 ls [])) :
    ∀ (n j : Nat), j ≤ cn → cn < j + n → ∀ (f : Nat → Int32), (tx (T ++ (S.drop a).take j) (k + j) f) → ∀ (H : Heap) (locs : List Loc), va_P (dC, dI) vwCl [(h0, .inr (2, [.ref hba, .ref hta, .ref hpi, .int (nI a)])), (hta, .inr (1, [.ref hty, .int (nI (k + j))])), (hty, .inl (cT, 256, .inl (f))), (hba, .inr (1, [.ref hby, .int (nI kb)])), (hby, .inl (cB, 256, .inl (fb))), (hpi, .inl (cP, np, .inl (fp)))] H → va_D A [(h0, .inr (2, [.ref hba, .ref hta, .ref hpi, .int (nI a)])), (hta, .inr (1, [.ref hty, .int (nI (k + j))])), (hty, .inl (cT, 256, .inl (f))), (hba, .inr (1, [.ref hby, .int (nI kb)])), (hby, .inl (cB, 256, .inl (fb))), (hpi, .inl (cP, np, .inl (fp)))] → va_S A s.heap H locs → ∀ ls : Array Slot, lv_has ls 3 [(2, .int (nI j)), (0, .ref h0), (1, .int (nI cn))] → W p l e ({ frames := 1, cells := 0, slots := 0, locals := 21 } : Room) s m args below meth c H locs 0 0 Q (F0 m 18 ls []) := by
  intro n
  induction n with
  | zero => intro j h1 h2; exact absurd h2 (by omega)
  | succ n ih =>
    intro j hj hn f hf0 H locs hP hD hS ls hl
    refine lv_iload_n hx hb d_M_insert_18 rfl (lv_at hl 0 rfl) ?_
    refine lv_iload_n hx hb d_M_insert_19 rfl (lv_at hl 2 rfl) ?_
    refine lv_icmp_ge (tgt := 47) hx hb d_M_insert_20 (by decide) (fun c_1 => ?_) (fun c_1 => ?_)
    · obtain rfl : j = cn := x_geN (by omega) hj c_1
      exact kk f hf0 _ _ hP hD hS ls (lv_sub hl [0, 1, 2] rfl)
    · have hlt : j < cn := x_ltN (by omega) hj c_1
      refine lv_aload_n hx hb d_M_insert_23 rfl (lv_at hl 1 rfl) ?_
      refine va_get (D := (dC, dI)) (ci := 2) (v := .ref hta) (C := R_M) (T := F_M) (N := 4) hx hb hw0 in_M hown hK hP 0 rfl rfl 1 (by decide) (hw0 (.fieldLink R_M 18 "TextKeeper$Maker" "text" "LTextKeeper$Text;") (List.mem_of_getElem? (i := 74) rfl)) (fun _ h9 => h9) rfl d_M_insert_24 ?_
      refine lv_aload_n hx hb d_M_insert_27 rfl (lv_at hl 1 rfl) ?_
      refine va_get (D := (dC, dI)) (ci := 2) (v := .ref hpi) (C := R_M) (T := F_M) (N := 4) hx hb hw0 in_M hown hK hP 0 rfl rfl 2 (by decide) (hw0 (.fieldLink R_M 21 "TextKeeper$Maker" "piece" "[B") (List.mem_of_getElem? (i := 75) rfl)) (fun _ h9 => h9) rfl d_M_insert_28 ?_
      refine lv_aload_n hx hb d_M_insert_31 rfl (lv_at hl 1 rfl) ?_
      refine va_get (D := (dC, dI)) (ci := 2) (v := .int (nI a)) (C := R_M) (T := F_M) (N := 4) hx hb hw0 in_M hown hK hP 0 rfl rfl 3 (by decide) (hw0 (.fieldLink R_M 25 "TextKeeper$Maker" "at" "I") (List.mem_of_getElem? (i := 76) rfl)) (fun _ h9 => h9) rfl d_M_insert_32 ?_
      refine lv_iload_n hx hb d_M_insert_35 rfl (lv_at hl 0 rfl) ?_
      refine lv_iadd hx hb d_M_insert_36 ?_
      refine lv_topi (fun x_2 ex_2 => ?_)
      obtain rfl : x_2 = (nI (a + j)) := by rw [ex_2]; exact nI_add a j
      clear ex_2
      refine va_bald hx hb hK hP 5 2 rfl rfl (vp_in_nI (by omega) (by omega)) d_M_insert_37 ?_
      refine lv_topi (fun x_3 ex_3 => ?_)
      have hPc := hP.sub (ws' := [(hta, .inr (1, [.ref hty, .int (nI (k + j))])), (hty, .inl (cT, 256, .inl ((f))))]) [1, 2] rfl
      have hKc := hK.sub (tys' := [(cT, .byte)]) [0] rfl
      have hDc := hD.sub (ws' := [(hta, .inr (1, [.ref hty, .int (nI (k + j))])), (hty, .inl (cT, 256, .inl ((f))))]) [1, 2] (by decide) rfl
      have hFc := va_free (wc := [(hta, .inr (1, [.ref hty, .int (nI (k + j))])), (hty, .inl (cT, 256, .inl ((f))))]) hD hS hA [1, 2] rfl
      refine va_callv (va_runV (As := [.int x_3]) (rest := []) ⟨hx, hb, hml, hown, hw0⟩ (g_addByte l dC dI H.size hta hty cT (k + j) (f) _ x_3 (by first | assumption | decide | omega) (by first | assumption | decide | omega)) (cwV 1 hw0 (gd_V 183 109 110 69 111 rfl rfl rfl rfl rfl) rfl rfl rfl (by decide +kernel) ⟨by decide +kernel, by decide +kernel⟩) (prV_E hPc hKc hDc hN (va_recv hKc hPc (ci := 1) (q0 := 0) rfl rfl)) rfl rfl hl.1 rfl (lv_room (Nat.le_of_ble_eq_true rfl)) d_M_insert_38 ⟨by decide +kernel, by decide +kernel⟩) hS (fun q _ h => hFc q h) hFc (fun u t H1 locs ht hvm hw hB hz1 hk1 hS => ?_)
      obtain ⟨f2_4, hu_5, hP1, hK1, hD1⟩ := hB
      rw [ht] at hP1
      have hK1 := va_K.moved hvm.symm hK1
      try dsimp only at hw
      obtain ⟨hP, hD⟩ := va_join (wr := [(h0, .inr (2, [.ref hba, .ref hta, .ref hpi, .int (nI a)])), (hba, .inr (1, [.ref hby, .int (nI kb)])), (hby, .inl (cB, 256, .inl (fb))), (hpi, .inl (cP, np, .inl (fp)))]) (w1 := [(hta, .inr (1, [.ref hty, .int (nI ((k + j) + 1))])), (hty, .inl (cT, 256, .inl (f2_4)))]) hP hD [1, 2] [0, 3, 4, 5] rfl rfl (by decide) (by decide) hk1 hFc hP1 hD1
      generalize H1 = H at hP hS ⊢
      replace hP : va_P (dC, dI) vwCl [(h0, .inr (2, [.ref hba, .ref hta, .ref hpi, .int (nI a)])), (hba, .inr (1, [.ref hby, .int (nI kb)])), (hby, .inl (cB, 256, .inl (fb))), (hpi, .inl (cP, np, .inl (fp))), (hta, .inr (1, [.ref hty, .int (nI ((k + j) + 1))])), (hty, .inl (cT, 256, .inl (f2_4)))] H := hP
      replace hD : va_D A [(h0, .inr (2, [.ref hba, .ref hta, .ref hpi, .int (nI a)])), (hba, .inr (1, [.ref hby, .int (nI kb)])), (hby, .inl (cB, 256, .inl (fb))), (hpi, .inl (cP, np, .inl (fp))), (hta, .inr (1, [.ref hty, .int (nI ((k + j) + 1))])), (hty, .inl (cT, 256, .inl (f2_4)))] := hD
      replace hK : va_K (dC, dI) vwCl [(cT, .byte), (cB, .byte), (cP, .byte)] s := hK
      refine lv_iinc (v := nI (j + 1)) (lv' := [(2, .int (nI (j + 1))), (0, .ref h0), (1, .int (nI cn))]) hx hb d_M_insert_41 hl (k := 0) rfl (nI_1 j) (by decide) rfl (fun ls hl => ?_)
      refine lv_goto (tgt := 18) hx hb d_M_insert_44 (by decide) ?_
      have eq9 : k + j + 1 = k + (j + 1) := by omega
      rw [eq9] at hP hD hu_5
      exact ih (j + 1) hlt (by omega) f2_4 (y_mk hs9 (by omega) (by omega) ex_3 hu_5) _ _ (hP.sub (ws' := [(h0, .inr (2, [.ref hba, .ref hta, .ref hpi, .int (nI a)])), (hta, .inr (1, [.ref hty, .int (nI (k + (j + 1)))])), (hty, .inl (cT, 256, .inl (f2_4))), (hba, .inr (1, [.ref hby, .int (nI kb)])), (hby, .inl (cB, 256, .inl (fb))), (hpi, .inl (cP, np, .inl (fp)))]) [0, 4, 5, 1, 2, 3] rfl) (hD.sub (ws' := [(h0, .inr (2, [.ref hba, .ref hta, .ref hpi, .int (nI a)])), (hta, .inr (1, [.ref hty, .int (nI (k + (j + 1)))])), (hty, .inl (cT, 256, .inl (f2_4))), (hba, .inr (1, [.ref hby, .int (nI kb)])), (hby, .inl (cB, 256, .inl (fb))), (hpi, .inl (cP, np, .inl (fp)))]) [0, 4, 5, 1, 2, 3] (by decide) rfl) hS ls (lv_sub hl [0, 1, 2] rfl)
set_option maxHeartbeats 4000000 in
set_option maxRecDepth 100000 in
theorem g_insert (l : Launch) (dC : Nat → ClassId) (dI : Nat → Nat → Nat) (sz : Nat) (h0 : Nat) (hba : Nat) (hta : Nat) (hpi : Nat) (hty : Nat) (cT : ClassId) (k : Nat) (T : List Int32) (hby : Nat) (cB : ClassId) (kb : Nat) (fb : Nat → Int32) (Bs : List Int32) (cP : ClassId) (np : Nat) (fp : Nat → Int32) (S : List Int32) (a : Nat) (f : Nat → Int32) (cn : Nat) (htt : tx T k f) (htb : tx Bs kb fb) (hs9 : tx S np fp) (hk : k ≤ 256) (hkb : kb ≤ 256) (hn : np ≤ 16384) (ha : a ≤ np) (hc : k + cn ≤ 256) : Met l y_M_insert k_M_insert ({ frames := 1, cells := 0, slots := 0, locals := 21 } : Room) (va_Pc [.ref h0, .int (nI cn)] (pc_E (dC, dI) [(h0, .inr (2, [.ref hba, .ref hta, .ref hpi, .int (nI a)])), (hta, .inr (1, [.ref hty, .int (nI k)])), (hty, .inl (cT, 256, .inl (f))), (hba, .inr (1, [.ref hby, .int (nI kb)])), (hby, .inl (cB, 256, .inl (fb))), (hpi, .inl (cP, np, .inl (fp)))] [(cT, .byte), (cB, .byte), (cP, .byte)] sz)) (va_Qi (fun (r : Int32) (_ : Unit) => r = bI (if S.length < a + cn then (none : Option (List Int32 × Nat)) else some (T ++ (S.drop a).take cn, a + cn)).isSome) (fun (_ : Unit) t => ∃ (a2 : Nat) (k2 : Nat) (f2 : Nat → Int32) (T2 : List Int32), ((tx T2 k2 f2 ∧ k2 ≤ 256 ∧ a2 ≤ np) ∧ cmR (if S.length < a + cn then (none : Option (List Int32 × Nat)) else some (T ++ (S.drop a).take cn, a + cn)) T2 a2) ∧ at_E (dC, dI) (va_A [(h0, .inr (2, [.ref hba, .ref hta, .ref hpi, .int (nI a)])), (hta, .inr (1, [.ref hty, .int (nI k)])), (hty, .inl (cT, 256, .inl (f))), (hba, .inr (1, [.ref hby, .int (nI kb)])), (hby, .inl (cB, 256, .inl (fb))), (hpi, .inl (cP, np, .inl (fp)))] sz) [(h0, .inr (2, [.ref hba, .ref hta, .ref hpi, .int (nI a2)])), (hta, .inr (1, [.ref hty, .int (nI k2)])), (hty, .inl (cT, 256, .inl (f2))), (hba, .inr (1, [.ref hby, .int (nI kb)])), (hby, .inl (cB, 256, .inl (fb))), (hpi, .inl (cP, np, .inl (fp)))] [(cT, .byte), (cB, .byte), (cP, .byte)] t) (va_A [(h0, .inr (2, [.ref hba, .ref hta, .ref hpi, .int (nI a)])), (hta, .inr (1, [.ref hty, .int (nI k)])), (hty, .inl (cT, 256, .inl (f))), (hba, .inr (1, [.ref hby, .int (nI kb)])), (hby, .inl (cB, 256, .inl (fb))), (hpi, .inl (cP, np, .inl (fp)))] sz)) 0 0 (va_A [(h0, .inr (2, [.ref hba, .ref hta, .ref hpi, .int (nI a)])), (hta, .inr (1, [.ref hty, .int (nI k)])), (hty, .inl (cT, 256, .inl (f))), (hba, .inr (1, [.ref hby, .int (nI kb)])), (hby, .inl (cB, 256, .inl (fb))), (hpi, .inl (cP, np, .inl (fp)))] sz) := by
  refine Met.ofW (cc := prog_3_method_6_code) (maxL := 3) (ret := (some .boolean)) (by decide) rfl ?_
  intro p e s m args below meth c s₁ B hml hv
  obtain ⟨rfl, hsz, hP, hK, hD0, hN⟩ := hv
  have hx := B.exec
  have hb := B.bytes
  have hr := B.returns
  have hts := atoms_spec (ws := k_M_insert) B.pre
  have hw0 : ∀ w ∈ w0, w.before _ s = true := fun w h => hts w (List.mem_cons_of_mem _ h)
  have hown : s.vm.findClass R_M = some m.cls := findClass_of_methodNamed B.named
  have hlocks := B.notSynchronized
  subst hsz
  have hD := hD0.self (sz := s.heap.size)
  generalize hAe : va_A [(h0, .inr (2, [.ref hba, .ref hta, .ref hpi, .int (nI a)])), (hta, .inr (1, [.ref hty, .int (nI k)])), (hty, .inl (cT, 256, .inl (f))), (hba, .inr (1, [.ref hby, .int (nI kb)])), (hby, .inl (cB, 256, .inl (fb))), (hpi, .inl (cP, np, .inl (fp)))] s.heap.size = A at hD ⊢
  have hA : ∀ q : Nat, s.heap.size ≤ q → A q := fun q h => by rw [← hAe]; exact Or.inr h
  have hS : va_S A s.heap s.heap [] := va_S.rf
  have hP : va_P (dC, dI) vwCl [(h0, .inr (2, [.ref hba, .ref hta, .ref hpi, .int (nI a)])), (hta, .inr (1, [.ref hty, .int (nI k)])), (hty, .inl (cT, 256, .inl (f))), (hba, .inr (1, [.ref hby, .int (nI kb)])), (hby, .inl (cB, 256, .inl (fb))), (hpi, .inl (cP, np, .inl (fp)))] s.heap := hP
  have hl := lv_entry ([.ref h0, .int (nI cn)]) (n := 3) (Nat.le_of_ble_eq_true rfl)
  rw [lg_entry_eq]
  generalize (lg_sl ([.ref h0, .int (nI cn)]) ++ List.replicate (3 - (lg_sl ([.ref h0, .int (nI cn)])).length) Slot.unset).toArray = ls at hl ⊢
  have hl : lv_has ls 3 [(0, .ref h0), (1, .int (nI cn))] := hl
  refine lv_iload_n hx hb d_M_insert_0 rfl (lv_at hl 1 rfl) ?_
  refine lv_aload_n hx hb d_M_insert_1 rfl (lv_at hl 0 rfl) ?_
  refine va_get (D := (dC, dI)) (ci := 2) (v := .ref hpi) (C := R_M) (T := F_M) (N := 4) hx hb hw0 in_M hown hK hP 0 rfl rfl 2 (by decide) (hw0 (.fieldLink R_M 21 "TextKeeper$Maker" "piece" "[B") (List.mem_of_getElem? (i := 75) rfl)) (fun _ h9 => h9) rfl d_M_insert_2 ?_
  refine va_alen (v := nI np) hx hb hK hP 5 2 rfl rfl (rfl) d_M_insert_5 ?_
  refine lv_aload_n hx hb d_M_insert_6 rfl (lv_at hl 0 rfl) ?_
  refine va_get (D := (dC, dI)) (ci := 2) (v := .int (nI a)) (C := R_M) (T := F_M) (N := 4) hx hb hw0 in_M hown hK hP 0 rfl rfl 3 (by decide) (hw0 (.fieldLink R_M 25 "TextKeeper$Maker" "at" "I") (List.mem_of_getElem? (i := 76) rfl)) (fun _ h9 => h9) rfl d_M_insert_7 ?_
  refine lv_isub hx hb d_M_insert_10 ?_
  refine lv_topi (fun x_1 ex_1 => ?_)
  obtain rfl : x_1 = (nI (np - a)) := by rw [ex_1]; exact pk_sub ha
  clear ex_1
  refine lv_icmp_le (tgt := 16) hx hb d_M_insert_11 (by decide) (fun c_2 => ?_) (fun c_2 => ?_)
  · have hac : a + cn ≤ np := (by have h8 := (nI_leI (by omega) (by omega)).mp c_2; omega)
    refine lv_iconst (v := 0) hx hb d_M_insert_16 (by decide) ?_
    refine lv_istore_n (lv' := [(2, .int 0), (0, .ref h0), (1, .int (nI cn))]) hx hb d_M_insert_17 rfl hl (by decide) rfl (fun ls hl => ?_)
    refine lq_mki h0 hba hta hpi hty cT k T hby cB kb fb Bs cP np fp S a cn htb hs9 hk hkb hn hc hac hx hb hml hown hw0 hN (hK.sub (tys' := [(cT, .byte), (cB, .byte), (cP, .byte)]) [0, 1, 2] rfl) hA (fun f9 hf9 H locs hP hD hS ls hl => ?_) (cn + 1) 0 (by omega) (by omega) f (by rw [List.take_zero, List.append_nil]; exact htt) _ _ (hP.sub (ws' := [(h0, .inr (2, [.ref hba, .ref hta, .ref hpi, .int (nI a)])), (hta, .inr (1, [.ref hty, .int (nI (k + 0))])), (hty, .inl (cT, 256, .inl (f))), (hba, .inr (1, [.ref hby, .int (nI kb)])), (hby, .inl (cB, 256, .inl (fb))), (hpi, .inl (cP, np, .inl (fp)))]) [0, 1, 2, 3, 4, 5] rfl) (hD.sub (ws' := [(h0, .inr (2, [.ref hba, .ref hta, .ref hpi, .int (nI a)])), (hta, .inr (1, [.ref hty, .int (nI (k + 0))])), (hty, .inl (cT, 256, .inl (f))), (hba, .inr (1, [.ref hby, .int (nI kb)])), (hby, .inl (cB, 256, .inl (fb))), (hpi, .inl (cP, np, .inl (fp)))]) [0, 1, 2, 3, 4, 5] (by decide) rfl) hS ls (lv_sub hl [0, 1, 2] rfl)
    replace hK := hK.sub (tys' := [(cT, .byte), (cB, .byte), (cP, .byte)]) [0, 1, 2] rfl
    refine lv_aload_n hx hb d_M_insert_47 rfl (lv_at hl 1 rfl) ?_
    refine lv_dup hx hb d_M_insert_48 rfl ?_
    refine va_get (D := (dC, dI)) (ci := 2) (v := .int (nI a)) (C := R_M) (T := F_M) (N := 4) hx hb hw0 in_M hown hK hP 0 rfl rfl 3 (by decide) (hw0 (.fieldLink R_M 25 "TextKeeper$Maker" "at" "I") (List.mem_of_getElem? (i := 76) rfl)) (fun _ h9 => h9) rfl d_M_insert_49 ?_
    refine lv_iload_n hx hb d_M_insert_52 rfl (lv_at hl 2 rfl) ?_
    refine lv_iadd hx hb d_M_insert_53 ?_
    refine lv_topi (fun x_3 ex_3 => ?_)
    obtain rfl : x_3 = (nI (a + cn)) := by rw [ex_3]; exact nI_add a cn
    clear ex_3
    refine va_put (D := (dC, dI)) (ci := 2) (v := .int (nI (a + cn))) (ty := .int) (C := R_M) (T := F_M) (N := 4) hx hb hw0 in_M ft_M tk_M nk_M hown hK hP hD hS 0 rfl rfl 3 (by decide) (hw0 (.fieldLink R_M 25 "TextKeeper$Maker" "at" "I") (List.mem_of_getElem? (i := 76) rfl)) (fun _ h9 => h9) rfl (by decide +kernel) rfl rfl (Nat.le_of_ble_eq_true rfl) d_M_insert_54 (fun H locs hP hD hS => ?_)
    replace hP : va_P (dC, dI) vwCl [(h0, .inr (2, [.ref hba, .ref hta, .ref hpi, .int (nI (a + cn))])), (hta, .inr (1, [.ref hty, .int (nI (k + cn))])), (hty, .inl (cT, 256, .inl (f9))), (hba, .inr (1, [.ref hby, .int (nI kb)])), (hby, .inl (cB, 256, .inl (fb))), (hpi, .inl (cP, np, .inl (fp)))] H := hP
    replace hD : va_D A [(h0, .inr (2, [.ref hba, .ref hta, .ref hpi, .int (nI (a + cn))])), (hta, .inr (1, [.ref hty, .int (nI (k + cn))])), (hty, .inl (cT, 256, .inl (f9))), (hba, .inr (1, [.ref hby, .int (nI kb)])), (hby, .inl (cB, 256, .inl (fb))), (hpi, .inl (cP, np, .inl (fp)))] := hD
    refine lv_iconst (v := 1) hx hb d_M_insert_57 (by decide) ?_
    have hP9 := hP.sub (ws' := [(h0, .inr (2, [.ref hba, .ref hta, .ref hpi, .int (nI (a + cn))])), (hta, .inr (1, [.ref hty, .int (nI (k + cn))])), (hty, .inl (cT, 256, .inl (f9))), (hba, .inr (1, [.ref hby, .int (nI kb)])), (hby, .inl (cB, 256, .inl (fb))), (hpi, .inl (cP, np, .inl (fp)))]) [0, 1, 2, 3, 4, 5] rfl
    have hD9 := hD.sub (ws' := [(h0, .inr (2, [.ref hba, .ref hta, .ref hpi, .int (nI (a + cn))])), (hta, .inr (1, [.ref hty, .int (nI (k + cn))])), (hty, .inl (cT, 256, .inl (f9))), (hba, .inr (1, [.ref hby, .int (nI kb)])), (hby, .inl (cB, 256, .inl (fb))), (hpi, .inl (cP, np, .inl (fp)))]) [0, 1, 2, 3, 4, 5] (by decide) rfl
    have hK9 := hK.sub (tys' := [(cT, .byte), (cB, .byte), (cP, .byte)]) [0, 1, 2] rfl
    exact W.zret (v := 1) (ty := .boolean) hx hb hr rfl (fun t ht hW => ⟨⟨1, (), rfl, (by rw [if_neg (by rw [hs9.1]; omega)]; rfl), (a + cn), (k + cn), f9, (T ++ (S.drop a).take cn), ⟨⟨hf9, hc, hac⟩, cmR_s (if_neg (by rw [hs9.1]; omega))⟩, by rw [ht]; exact hP9, va_K.moved hW.alike hK9, hD9⟩, hS.F ht⟩) hS.2.2 d_M_insert_58
  · have hcc : S.length < a + cn := (by rw [hs9.1]; rcases Nat.lt_or_ge np (a + cn) with z | z; exact z; exact absurd (nI_le (by omega) (by omega)) c_2)
    refine lv_iconst (v := 0) hx hb d_M_insert_14 (by decide) ?_
    have hP9 := hP.sub (ws' := [(h0, .inr (2, [.ref hba, .ref hta, .ref hpi, .int (nI a)])), (hta, .inr (1, [.ref hty, .int (nI k)])), (hty, .inl (cT, 256, .inl (f))), (hba, .inr (1, [.ref hby, .int (nI kb)])), (hby, .inl (cB, 256, .inl (fb))), (hpi, .inl (cP, np, .inl (fp)))]) [0, 1, 2, 3, 4, 5] rfl
    have hD9 := hD.sub (ws' := [(h0, .inr (2, [.ref hba, .ref hta, .ref hpi, .int (nI a)])), (hta, .inr (1, [.ref hty, .int (nI k)])), (hty, .inl (cT, 256, .inl (f))), (hba, .inr (1, [.ref hby, .int (nI kb)])), (hby, .inl (cB, 256, .inl (fb))), (hpi, .inl (cP, np, .inl (fp)))]) [0, 1, 2, 3, 4, 5] (by decide) rfl
    have hK9 := hK.sub (tys' := [(cT, .byte), (cB, .byte), (cP, .byte)]) [0, 1, 2] rfl
    exact W.zret (v := 0) (ty := .boolean) hx hb hr rfl (fun t ht hW => ⟨⟨0, (), rfl, (by rw [if_pos hcc]; rfl), a, k, f, T, ⟨⟨htt, hk, ha⟩, cmR_n (if_pos hcc)⟩, by rw [ht]; exact hP9, va_K.moved hW.alike hK9, hD9⟩, hS.F ht⟩) hS.2.2 d_M_insert_15
set_option maxHeartbeats 4000000 in
set_option maxRecDepth 100000 in
theorem lq_mkc {p : Program} {l : Launch} {e : Env} {s : State} {m : MethodId} {args : Array Value} {below : List Frame} {meth : Method} {c : Code} {dC : Nat → ClassId} {dI : Nat → Nat → Nat} {A : Nat → Prop} {Q : State → Prop} (h0 : Nat) (hba : Nat) (hta : Nat) (hpi : Nat) (hty : Nat) (cT : ClassId) (k : Nat) (T : List Int32) (hby : Nat) (cB : ClassId) (kb : Nat) (fb : Nat → Int32) (Bs : List Int32) (cP : ClassId) (np : Nat) (fp : Nat → Int32) (S : List Int32) (a : Nat) (cn : Nat) (pd : Nat) (htb : tx Bs kb fb) (hs9 : tx S np fp) (hk : k ≤ 256) (hkb : kb ≤ 256) (hn : np ≤ 16384) (hc : k + cn ≤ 256) (hdc : pd + cn ≤ kb)
    (hx : p.tables.exec = Jvm.exec) (hb : c.code = prog_3_method_7_code) (hml : c.maxLocals = 4) (hown : s.vm.findClass R_M = some m.cls) (hw0 : ∀ w ∈ w0, w.before args s = true) (hN : nw_ok s) (hK : va_K (dC, dI) vwCl [(cT, .byte), (cB, .byte), (cP, .byte)] s) (hA : ∀ q : Nat, s.heap.size ≤ q → A q)
    (kk : ∀ (f : Nat → Int32), (tx (T ++ (Bs.drop pd).take cn) (k + cn) f) → ∀ (H : Heap) (locs : List Loc), va_P (dC, dI) vwCl [(h0, .inr (2, [.ref hba, .ref hta, .ref hpi, .int (nI a)])), (hta, .inr (1, [.ref hty, .int (nI (k + cn))])), (hty, .inl (cT, 256, .inl (f))), (hba, .inr (1, [.ref hby, .int (nI kb)])), (hby, .inl (cB, 256, .inl (fb))), (hpi, .inl (cP, np, .inl (fp)))] H → va_D A [(h0, .inr (2, [.ref hba, .ref hta, .ref hpi, .int (nI a)])), (hta, .inr (1, [.ref hty, .int (nI (k + cn))])), (hty, .inl (cT, 256, .inl (f))), (hba, .inr (1, [.ref hby, .int (nI kb)])), (hby, .inl (cB, 256, .inl (fb))), (hpi, .inl (cP, np, .inl (fp)))] → va_S A s.heap H locs → ∀ ls : Array Slot, lv_has ls 4 [(3, .int (nI cn)), (0, .ref h0), (1, .int (nI cn)), (2, .int (nI pd))] → W p l e ({ frames := 1, cells := 0, slots := 0, locals := 23 } : Room) s m args below meth c H locs 0 0 Q (F0 m 54 ls [])) :
    ∀ (n j : Nat), j ≤ cn → cn < j + n → ∀ (f : Nat → Int32), (tx (T ++ (Bs.drop pd).take j) (k + j) f) → ∀ (H : Heap) (locs : List Loc), va_P (dC, dI) vwCl [(h0, .inr (2, [.ref hba, .ref hta, .ref hpi, .int (nI a)])), (hta, .inr (1, [.ref hty, .int (nI (k + j))])), (hty, .inl (cT, 256, .inl (f))), (hba, .inr (1, [.ref hby, .int (nI kb)])), (hby, .inl (cB, 256, .inl (fb))), (hpi, .inl (cP, np, .inl (fp)))] H → va_D A [(h0, .inr (2, [.ref hba, .ref hta, .ref hpi, .int (nI a)])), (hta, .inr (1, [.ref hty, .int (nI (k + j))])), (hty, .inl (cT, 256, .inl (f))), (hba, .inr (1, [.ref hby, .int (nI kb)])), (hby, .inl (cB, 256, .inl (fb))), (hpi, .inl (cP, np, .inl (fp)))] → va_S A s.heap H locs → ∀ ls : Array Slot, lv_has ls 4 [(3, .int (nI j)), (0, .ref h0), (1, .int (nI cn)), (2, .int (nI pd))] → W p l e ({ frames := 1, cells := 0, slots := 0, locals := 23 } : Room) s m args below meth c H locs 0 0 Q (F0 m 26 ls []) := by
  intro n
  induction n with
  | zero => intro j h1 h2; exact absurd h2 (by omega)
  | succ n ih =>
    intro j hj hn f hf0 H locs hP hD hS ls hl
    refine lv_iload_n hx hb d_M_copy_26 rfl (lv_at hl 0 rfl) ?_
    refine lv_iload_n hx hb d_M_copy_27 rfl (lv_at hl 2 rfl) ?_
    refine lv_icmp_ge (tgt := 54) hx hb d_M_copy_28 (by decide) (fun c_1 => ?_) (fun c_1 => ?_)
    · obtain rfl : j = cn := x_geN (by omega) hj c_1
      exact kk f hf0 _ _ hP hD hS ls (lv_sub hl [0, 1, 2, 3] rfl)
    · have hlt : j < cn := x_ltN (by omega) hj c_1
      refine lv_aload_n hx hb d_M_copy_31 rfl (lv_at hl 1 rfl) ?_
      refine va_get (D := (dC, dI)) (ci := 2) (v := .ref hta) (C := R_M) (T := F_M) (N := 4) hx hb hw0 in_M hown hK hP 0 rfl rfl 1 (by decide) (hw0 (.fieldLink R_M 18 "TextKeeper$Maker" "text" "LTextKeeper$Text;") (List.mem_of_getElem? (i := 74) rfl)) (fun _ h9 => h9) rfl d_M_copy_32 ?_
      refine lv_aload_n hx hb d_M_copy_35 rfl (lv_at hl 1 rfl) ?_
      refine va_get (D := (dC, dI)) (ci := 2) (v := .ref hba) (C := R_M) (T := F_M) (N := 4) hx hb hw0 in_M hown hK hP 0 rfl rfl 0 (by decide) (hw0 (.fieldLink R_M 12 "TextKeeper$Maker" "base" "LTextKeeper$Text;") (List.mem_of_getElem? (i := 73) rfl)) (fun _ h9 => h9) rfl d_M_copy_36 ?_
      refine lv_iload_n hx hb d_M_copy_39 rfl (lv_at hl 3 rfl) ?_
      refine lv_iload_n hx hb d_M_copy_40 rfl (lv_at hl 0 rfl) ?_
      refine lv_iadd hx hb d_M_copy_41 ?_
      refine lv_topi (fun x_2 ex_2 => ?_)
      obtain rfl : x_2 = (nI (pd + j)) := by rw [ex_2]; exact nI_add pd j
      clear ex_2
      have hPc := hP.sub (ws' := [(hba, .inr (1, [.ref hby, .int (nI kb)])), (hby, .inl (cB, 256, .inl ((fb))))]) [3, 4] rfl
      have hKc := hK.sub (tys' := [(cB, .byte)]) [1] rfl
      refine ps_i (va_runV (As := [.int (nI (pd + j))]) (rest := [.ref hta]) ⟨hx, hb, hml, hown, hw0⟩ (g_byteAt l dC dI hba hby cB kb (fb) Bs (nI (pd + j)) (by first | assumption | decide | omega) (by first | assumption | decide | omega)) (cwV 1 hw0 (gd_V 184 128 129 69 130 rfl rfl rfl rfl rfl) rfl rfl rfl (by decide +kernel) ⟨by decide +kernel, by decide +kernel⟩) (prV_R hPc hKc hN (va_recv hKc hPc (ci := 1) (q0 := 0) rfl rfl)) rfl rfl hl.1 rfl (lv_room (Nat.le_of_ble_eq_true rfl)) d_M_copy_42 ⟨by decide +kernel, by decide +kernel⟩) (fun r_3 hr_3 => ?_)
      obtain rfl : r_3 = (bAt Bs (nI (pd + j))) := hr_3
      have hPc := hP.sub (ws' := [(hta, .inr (1, [.ref hty, .int (nI (k + j))])), (hty, .inl (cT, 256, .inl ((f))))]) [1, 2] rfl
      have hKc := hK.sub (tys' := [(cT, .byte)]) [0] rfl
      have hDc := hD.sub (ws' := [(hta, .inr (1, [.ref hty, .int (nI (k + j))])), (hty, .inl (cT, 256, .inl ((f))))]) [1, 2] (by decide) rfl
      have hFc := va_free (wc := [(hta, .inr (1, [.ref hty, .int (nI (k + j))])), (hty, .inl (cT, 256, .inl ((f))))]) hD hS hA [1, 2] rfl
      refine va_callv (va_runV (As := [.int (bAt Bs (nI (pd + j)))]) (rest := []) ⟨hx, hb, hml, hown, hw0⟩ (g_addByte l dC dI H.size hta hty cT (k + j) (f) _ (bAt Bs (nI (pd + j))) (by first | assumption | decide | omega) (by first | assumption | decide | omega)) (cwV 1 hw0 (gd_V 183 109 110 69 111 rfl rfl rfl rfl rfl) rfl rfl rfl (by decide +kernel) ⟨by decide +kernel, by decide +kernel⟩) (prV_E hPc hKc hDc hN (va_recv hKc hPc (ci := 1) (q0 := 0) rfl rfl)) rfl rfl hl.1 rfl (lv_room (Nat.le_of_ble_eq_true rfl)) d_M_copy_45 ⟨by decide +kernel, by decide +kernel⟩) hS (fun q _ h => hFc q h) hFc (fun u t H1 locs ht hvm hw hB hz1 hk1 hS => ?_)
      obtain ⟨f2_4, hu_5, hP1, hK1, hD1⟩ := hB
      rw [ht] at hP1
      have hK1 := va_K.moved hvm.symm hK1
      try dsimp only at hw
      obtain ⟨hP, hD⟩ := va_join (wr := [(h0, .inr (2, [.ref hba, .ref hta, .ref hpi, .int (nI a)])), (hba, .inr (1, [.ref hby, .int (nI kb)])), (hby, .inl (cB, 256, .inl (fb))), (hpi, .inl (cP, np, .inl (fp)))]) (w1 := [(hta, .inr (1, [.ref hty, .int (nI ((k + j) + 1))])), (hty, .inl (cT, 256, .inl (f2_4)))]) hP hD [1, 2] [0, 3, 4, 5] rfl rfl (by decide) (by decide) hk1 hFc hP1 hD1
      generalize H1 = H at hP hS ⊢
      replace hP : va_P (dC, dI) vwCl [(h0, .inr (2, [.ref hba, .ref hta, .ref hpi, .int (nI a)])), (hba, .inr (1, [.ref hby, .int (nI kb)])), (hby, .inl (cB, 256, .inl (fb))), (hpi, .inl (cP, np, .inl (fp))), (hta, .inr (1, [.ref hty, .int (nI ((k + j) + 1))])), (hty, .inl (cT, 256, .inl (f2_4)))] H := hP
      replace hD : va_D A [(h0, .inr (2, [.ref hba, .ref hta, .ref hpi, .int (nI a)])), (hba, .inr (1, [.ref hby, .int (nI kb)])), (hby, .inl (cB, 256, .inl (fb))), (hpi, .inl (cP, np, .inl (fp))), (hta, .inr (1, [.ref hty, .int (nI ((k + j) + 1))])), (hty, .inl (cT, 256, .inl (f2_4)))] := hD
      replace hK : va_K (dC, dI) vwCl [(cT, .byte), (cB, .byte), (cP, .byte)] s := hK
      refine lv_iinc (v := nI (j + 1)) (lv' := [(3, .int (nI (j + 1))), (0, .ref h0), (1, .int (nI cn)), (2, .int (nI pd))]) hx hb d_M_copy_48 hl (k := 0) rfl (nI_1 j) (by decide) rfl (fun ls hl => ?_)
      refine lv_goto (tgt := 26) hx hb d_M_copy_51 (by decide) ?_
      have eq9 : k + j + 1 = k + (j + 1) := by omega
      rw [eq9] at hP hD hu_5
      exact ih (j + 1) hlt (by omega) f2_4 (y_cp htb (by omega) (by omega) hu_5) _ _ (hP.sub (ws' := [(h0, .inr (2, [.ref hba, .ref hta, .ref hpi, .int (nI a)])), (hta, .inr (1, [.ref hty, .int (nI (k + (j + 1)))])), (hty, .inl (cT, 256, .inl (f2_4))), (hba, .inr (1, [.ref hby, .int (nI kb)])), (hby, .inl (cB, 256, .inl (fb))), (hpi, .inl (cP, np, .inl (fp)))]) [0, 4, 5, 1, 2, 3] rfl) (hD.sub (ws' := [(h0, .inr (2, [.ref hba, .ref hta, .ref hpi, .int (nI a)])), (hta, .inr (1, [.ref hty, .int (nI (k + (j + 1)))])), (hty, .inl (cT, 256, .inl (f2_4))), (hba, .inr (1, [.ref hby, .int (nI kb)])), (hby, .inl (cB, 256, .inl (fb))), (hpi, .inl (cP, np, .inl (fp)))]) [0, 4, 5, 1, 2, 3] (by decide) rfl) hS ls (lv_sub hl [0, 1, 2, 3] rfl)
set_option maxHeartbeats 4000000 in
set_option maxRecDepth 100000 in
theorem g_copy (l : Launch) (dC : Nat → ClassId) (dI : Nat → Nat → Nat) (sz : Nat) (h0 : Nat) (hba : Nat) (hta : Nat) (hpi : Nat) (hty : Nat) (cT : ClassId) (k : Nat) (T : List Int32) (hby : Nat) (cB : ClassId) (kb : Nat) (fb : Nat → Int32) (Bs : List Int32) (cP : ClassId) (np : Nat) (fp : Nat → Int32) (S : List Int32) (a : Nat) (f : Nat → Int32) (cn : Nat) (htt : tx T k f) (htb : tx Bs kb fb) (hs9 : tx S np fp) (hk : k ≤ 256) (hkb : kb ≤ 256) (hn : np ≤ 16384) (ha : a ≤ np) (hc : k + cn ≤ 256) : Met l y_M_copy k_M_copy ({ frames := 1, cells := 0, slots := 0, locals := 23 } : Room) (va_Pc [.ref h0, .int (nI cn)] (pc_E (dC, dI) [(h0, .inr (2, [.ref hba, .ref hta, .ref hpi, .int (nI a)])), (hta, .inr (1, [.ref hty, .int (nI k)])), (hty, .inl (cT, 256, .inl (f))), (hba, .inr (1, [.ref hby, .int (nI kb)])), (hby, .inl (cB, 256, .inl (fb))), (hpi, .inl (cP, np, .inl (fp)))] [(cT, .byte), (cB, .byte), (cP, .byte)] sz)) (va_Qi (fun (r : Int32) (_ : Unit) => r = bI (cpc S Bs T a cn).isSome) (fun (_ : Unit) t => ∃ (a2 : Nat) (k2 : Nat) (f2 : Nat → Int32) (T2 : List Int32), ((tx T2 k2 f2 ∧ k2 ≤ 256 ∧ a2 ≤ np) ∧ cmR (cpc S Bs T a cn) T2 a2) ∧ at_E (dC, dI) (va_A [(h0, .inr (2, [.ref hba, .ref hta, .ref hpi, .int (nI a)])), (hta, .inr (1, [.ref hty, .int (nI k)])), (hty, .inl (cT, 256, .inl (f))), (hba, .inr (1, [.ref hby, .int (nI kb)])), (hby, .inl (cB, 256, .inl (fb))), (hpi, .inl (cP, np, .inl (fp)))] sz) [(h0, .inr (2, [.ref hba, .ref hta, .ref hpi, .int (nI a2)])), (hta, .inr (1, [.ref hty, .int (nI k2)])), (hty, .inl (cT, 256, .inl (f2))), (hba, .inr (1, [.ref hby, .int (nI kb)])), (hby, .inl (cB, 256, .inl (fb))), (hpi, .inl (cP, np, .inl (fp)))] [(cT, .byte), (cB, .byte), (cP, .byte)] t) (va_A [(h0, .inr (2, [.ref hba, .ref hta, .ref hpi, .int (nI a)])), (hta, .inr (1, [.ref hty, .int (nI k)])), (hty, .inl (cT, 256, .inl (f))), (hba, .inr (1, [.ref hby, .int (nI kb)])), (hby, .inl (cB, 256, .inl (fb))), (hpi, .inl (cP, np, .inl (fp)))] sz)) 0 0 (va_A [(h0, .inr (2, [.ref hba, .ref hta, .ref hpi, .int (nI a)])), (hta, .inr (1, [.ref hty, .int (nI k)])), (hty, .inl (cT, 256, .inl (f))), (hba, .inr (1, [.ref hby, .int (nI kb)])), (hby, .inl (cB, 256, .inl (fb))), (hpi, .inl (cP, np, .inl (fp)))] sz) := by
  refine Met.ofW (cc := prog_3_method_7_code) (maxL := 4) (ret := (some .boolean)) (by decide) rfl ?_
  intro p e s m args below meth c s₁ B hml hv
  obtain ⟨rfl, hsz, hP, hK, hD0, hN⟩ := hv
  have hx := B.exec
  have hb := B.bytes
  have hr := B.returns
  have hts := atoms_spec (ws := k_M_copy) B.pre
  have hw0 : ∀ w ∈ w0, w.before _ s = true := fun w h => hts w (List.mem_cons_of_mem _ h)
  have hown : s.vm.findClass R_M = some m.cls := findClass_of_methodNamed B.named
  have hlocks := B.notSynchronized
  subst hsz
  have hD := hD0.self (sz := s.heap.size)
  generalize hAe : va_A [(h0, .inr (2, [.ref hba, .ref hta, .ref hpi, .int (nI a)])), (hta, .inr (1, [.ref hty, .int (nI k)])), (hty, .inl (cT, 256, .inl (f))), (hba, .inr (1, [.ref hby, .int (nI kb)])), (hby, .inl (cB, 256, .inl (fb))), (hpi, .inl (cP, np, .inl (fp)))] s.heap.size = A at hD ⊢
  have hA : ∀ q : Nat, s.heap.size ≤ q → A q := fun q h => by rw [← hAe]; exact Or.inr h
  have hS : va_S A s.heap s.heap [] := va_S.rf
  have hP : va_P (dC, dI) vwCl [(h0, .inr (2, [.ref hba, .ref hta, .ref hpi, .int (nI a)])), (hta, .inr (1, [.ref hty, .int (nI k)])), (hty, .inl (cT, 256, .inl (f))), (hba, .inr (1, [.ref hby, .int (nI kb)])), (hby, .inl (cB, 256, .inl (fb))), (hpi, .inl (cP, np, .inl (fp)))] s.heap := hP
  have hl := lv_entry ([.ref h0, .int (nI cn)]) (n := 4) (Nat.le_of_ble_eq_true rfl)
  rw [lg_entry_eq]
  generalize (lg_sl ([.ref h0, .int (nI cn)]) ++ List.replicate (4 - (lg_sl ([.ref h0, .int (nI cn)])).length) Slot.unset).toArray = ls at hl ⊢
  have hl : lv_has ls 4 [(0, .ref h0), (1, .int (nI cn))] := hl
  refine lv_aload_n hx hb d_M_copy_0 rfl (lv_at hl 0 rfl) ?_
  have hPc := hP.sub (ws' := [(h0, .inr (2, [.ref hba, .ref hta, .ref hpi, .int (nI a)])), (hpi, .inl (cP, np, .inl ((fp))))]) [0, 5] rfl
  have hKc := hK.sub (tys' := [(cP, .byte)]) [2] rfl
  have hDc := hD.sub (ws' := [(h0, .inr (2, [.ref hba, .ref hta, .ref hpi, .int (nI a)])), (hpi, .inl (cP, np, .inl ((fp))))]) [0, 5] (by decide) rfl
  have hFc := va_free (wc := [(h0, .inr (2, [.ref hba, .ref hta, .ref hpi, .int (nI a)])), (hpi, .inl (cP, np, .inl ((fp))))]) hD hS hA [0, 5] rfl
  refine va_calli (va_runV (As := []) (rest := []) ⟨hx, hb, hml, hown, hw0⟩ (g_readNumber l dC dI s.heap.size h0 (.ref hba) (.ref hta) hpi cP np (fp) _ a (by first | assumption | decide | omega) (by first | assumption | decide | omega) (by first | assumption | decide | omega)) (cwV 0 hw0 (gd_V 185 186 187 87 188 rfl rfl rfl rfl rfl) rfl rfl rfl (by decide +kernel) ⟨by decide +kernel, by decide +kernel⟩) (prV_E hPc hKc hDc hN (va_recv hKc hPc (ci := 2) (q0 := 0) rfl rfl)) rfl rfl hl.1 rfl (lv_room (Nat.le_of_ble_eq_true rfl)) d_M_copy_1 ⟨by decide +kernel, by decide +kernel⟩) hS (fun q _ h => hFc q h) hFc (fun r_1 u t H1 locs ht hvm hw hB hz1 hk1 hS => ?_)
  obtain ⟨a2_2, hu_3, hP1, hK1, hD1⟩ := hB
  rw [ht] at hP1
  have hK1 := va_K.moved hvm.symm hK1
  try dsimp only at hw
  obtain ⟨hP, hD⟩ := va_join (wr := [(hta, .inr (1, [.ref hty, .int (nI k)])), (hty, .inl (cT, 256, .inl (f))), (hba, .inr (1, [.ref hby, .int (nI kb)])), (hby, .inl (cB, 256, .inl (fb)))]) (w1 := [(h0, .inr (2, [.ref hba, .ref hta, .ref hpi, .int (nI a2_2)])), (hpi, .inl (cP, np, .inl ((fp))))]) hP hD [0, 5] [1, 2, 3, 4] rfl rfl (by decide) (by decide) hk1 hFc hP1 hD1
  generalize H1 = H at hP hS ⊢
  replace hP : va_P (dC, dI) vwCl [(hta, .inr (1, [.ref hty, .int (nI k)])), (hty, .inl (cT, 256, .inl (f))), (hba, .inr (1, [.ref hby, .int (nI kb)])), (hby, .inl (cB, 256, .inl (fb))), (h0, .inr (2, [.ref hba, .ref hta, .ref hpi, .int (nI a2_2)])), (hpi, .inl (cP, np, .inl ((fp))))] H := hP
  replace hD : va_D A [(hta, .inr (1, [.ref hty, .int (nI k)])), (hty, .inl (cT, 256, .inl (f))), (hba, .inr (1, [.ref hby, .int (nI kb)])), (hby, .inl (cB, 256, .inl (fb))), (h0, .inr (2, [.ref hba, .ref hta, .ref hpi, .int (nI a2_2)])), (hpi, .inl (cP, np, .inl ((fp))))] := hD
  replace hK : va_K (dC, dI) vwCl [(cT, .byte), (cB, .byte), (cP, .byte)] s := hK
  have hw_4 := hw
  rcases hq9 : (rd S a).1 with _ | pd
  · rw [hq9] at hw_4; obtain rfl : r_1 = -1 := hw_4; have ha2 : a2_2 ≤ np := (by have h8 := rd_le (S := S) (a := a) (by rw [hs9.1]; exact ha); rw [hs9.1] at h8; omega)
    refine lv_istore_n (lv' := [(2, .int (-1)), (0, .ref h0), (1, .int (nI cn))]) hx hb d_M_copy_4 rfl hl (by decide) rfl (fun ls hl => ?_)
    refine lv_iload_n hx hb d_M_copy_5 rfl (lv_at hl 0 rfl) ?_
    refine lv_if_lt (tgt := 22) hx hb d_M_copy_6 (by decide) (fun _ => ?_) (fun h9 => absurd h9 (by decide +kernel))
    refine lv_iconst (v := 0) hx hb d_M_copy_22 (by decide) ?_
    have hP9 := hP.sub (ws' := [(h0, .inr (2, [.ref hba, .ref hta, .ref hpi, .int (nI a2_2)])), (hta, .inr (1, [.ref hty, .int (nI k)])), (hty, .inl (cT, 256, .inl (f))), (hba, .inr (1, [.ref hby, .int (nI kb)])), (hby, .inl (cB, 256, .inl (fb))), (hpi, .inl (cP, np, .inl (fp)))]) [4, 0, 1, 2, 3, 5] rfl
    have hD9 := hD.sub (ws' := [(h0, .inr (2, [.ref hba, .ref hta, .ref hpi, .int (nI a2_2)])), (hta, .inr (1, [.ref hty, .int (nI k)])), (hty, .inl (cT, 256, .inl (f))), (hba, .inr (1, [.ref hby, .int (nI kb)])), (hby, .inl (cB, 256, .inl (fb))), (hpi, .inl (cP, np, .inl (fp)))]) [4, 0, 1, 2, 3, 5] (by decide) rfl
    have hK9 := hK.sub (tys' := [(cT, .byte), (cB, .byte), (cP, .byte)]) [0, 1, 2] rfl
    exact W.zret (v := 0) (ty := .boolean) hx hb hr rfl (fun t ht hW => ⟨⟨0, (), rfl, (by rw [show cpc S Bs T a cn = none from by first | exact cpc_0 hq9 | exact cpc_1 hq9 hcc]; rfl), a2_2, k, f, T, ⟨⟨htt, hk, ha2⟩, cmR_n (by first | exact cpc_0 hq9 | exact cpc_1 hq9 hcc)⟩, by rw [ht]; exact hP9, va_K.moved hW.alike hK9, hD9⟩, hS.F ht⟩) hS.2.2 d_M_copy_23
  · rw [hq9] at hw_4; obtain rfl : r_1 = nI pd := hw_4; have ha2 : a2_2 ≤ np := (by have h8 := rd_le (S := S) (a := a) (by rw [hs9.1]; exact ha); rw [hs9.1] at h8; omega); have hd9 := (rd_some hq9).1
    refine lv_istore_n (lv' := [(2, .int (nI pd)), (0, .ref h0), (1, .int (nI cn))]) hx hb d_M_copy_4 rfl hl (by decide) rfl (fun ls hl => ?_)
    refine lv_iload_n hx hb d_M_copy_5 rfl (lv_at hl 0 rfl) ?_
    refine lv_if_lt (tgt := 22) hx hb d_M_copy_6 (by decide) (fun c_5 => absurd c_5 (nI_pos (by omega))) (fun c_5 => ?_)
    refine lv_iload_n hx hb d_M_copy_9 rfl (lv_at hl 2 rfl) ?_
    refine lv_aload_n hx hb d_M_copy_10 rfl (lv_at hl 1 rfl) ?_
    refine va_get (D := (dC, dI)) (ci := 2) (v := .ref hba) (C := R_M) (T := F_M) (N := 4) hx hb hw0 in_M hown hK hP 4 rfl rfl 0 (by decide) (hw0 (.fieldLink R_M 12 "TextKeeper$Maker" "base" "LTextKeeper$Text;") (List.mem_of_getElem? (i := 73) rfl)) (fun _ h9 => h9) rfl d_M_copy_11 ?_
    refine va_getN (D := (dC, dI)) (ci := 1) (v := .int (nI kb)) (C := R_T) (T := F_T) (N := 2) hx hb hw0 in_T hown hK hP 2 rfl rfl 1 (by decide) (va_Nw.use rfl (hN.1 (.fieldLinkNest R_M 75 "TextKeeper$Text" "length" "I" "TextKeeper") (List.mem_of_getElem? (i := 1) rfl))) (fun _ h9 => h9) rfl d_M_copy_14 ?_
    refine lv_iload_n hx hb d_M_copy_17 rfl (lv_at hl 0 rfl) ?_
    refine lv_isub hx hb d_M_copy_18 ?_
    refine lv_topi (fun x_6 ex_6 => ?_)
    obtain rfl : x_6 = (nI kb - nI pd) := by rw [ex_6]; done
    clear ex_6
    refine lv_icmp_le (tgt := 24) hx hb d_M_copy_19 (by decide) (fun c_7 => ?_) (fun c_7 => ?_)
    · have hdc : pd + cn ≤ kb := (by have h8 := (x_subLe (by omega) (by omega) (by omega)).mp c_7; omega)
      refine lv_iconst (v := 0) hx hb d_M_copy_24 (by decide) ?_
      refine lv_istore_n (lv' := [(3, .int 0), (2, .int (nI pd)), (0, .ref h0), (1, .int (nI cn))]) hx hb d_M_copy_25 rfl hl (by decide) rfl (fun ls hl => ?_)
      refine lq_mkc h0 hba hta hpi hty cT k T hby cB kb fb Bs cP np fp S (a2_2) cn pd htb hs9 hk hkb hn hc hdc hx hb hml hown hw0 hN (hK.sub (tys' := [(cT, .byte), (cB, .byte), (cP, .byte)]) [0, 1, 2] rfl) hA (fun f9 hf9 H locs hP hD hS ls hl => ?_) (cn + 1) 0 (by omega) (by omega) f (by rw [List.take_zero, List.append_nil]; exact htt) _ _ (hP.sub (ws' := [(h0, .inr (2, [.ref hba, .ref hta, .ref hpi, .int (nI a2_2)])), (hta, .inr (1, [.ref hty, .int (nI (k + 0))])), (hty, .inl (cT, 256, .inl (f))), (hba, .inr (1, [.ref hby, .int (nI kb)])), (hby, .inl (cB, 256, .inl (fb))), (hpi, .inl (cP, np, .inl (fp)))]) [4, 0, 1, 2, 3, 5] rfl) (hD.sub (ws' := [(h0, .inr (2, [.ref hba, .ref hta, .ref hpi, .int (nI a2_2)])), (hta, .inr (1, [.ref hty, .int (nI (k + 0))])), (hty, .inl (cT, 256, .inl (f))), (hba, .inr (1, [.ref hby, .int (nI kb)])), (hby, .inl (cB, 256, .inl (fb))), (hpi, .inl (cP, np, .inl (fp)))]) [4, 0, 1, 2, 3, 5] (by decide) rfl) hS ls (lv_sub hl [0, 2, 3, 1] rfl)
      replace hK := hK.sub (tys' := [(cT, .byte), (cB, .byte), (cP, .byte)]) [0, 1, 2] rfl
      refine lv_iconst (v := 1) hx hb d_M_copy_54 (by decide) ?_
      have hP9 := hP.sub (ws' := [(h0, .inr (2, [.ref hba, .ref hta, .ref hpi, .int (nI a2_2)])), (hta, .inr (1, [.ref hty, .int (nI (k + cn))])), (hty, .inl (cT, 256, .inl (f9))), (hba, .inr (1, [.ref hby, .int (nI kb)])), (hby, .inl (cB, 256, .inl (fb))), (hpi, .inl (cP, np, .inl (fp)))]) [0, 1, 2, 3, 4, 5] rfl
      have hD9 := hD.sub (ws' := [(h0, .inr (2, [.ref hba, .ref hta, .ref hpi, .int (nI a2_2)])), (hta, .inr (1, [.ref hty, .int (nI (k + cn))])), (hty, .inl (cT, 256, .inl (f9))), (hba, .inr (1, [.ref hby, .int (nI kb)])), (hby, .inl (cB, 256, .inl (fb))), (hpi, .inl (cP, np, .inl (fp)))]) [0, 1, 2, 3, 4, 5] (by decide) rfl
      have hK9 := hK.sub (tys' := [(cT, .byte), (cB, .byte), (cP, .byte)]) [0, 1, 2] rfl
      exact W.zret (v := 1) (ty := .boolean) hx hb hr rfl (fun t ht hW => ⟨⟨1, (), rfl, (by rw [cpc_2 hq9 (by rw [htb.1]; omega)]; rfl), a2_2, (k + cn), f9, (T ++ (Bs.drop pd).take cn), ⟨⟨hf9, hc, ha2⟩, cmR_s (by rw [hu_3]; exact cpc_2 hq9 (by rw [htb.1]; omega))⟩, by rw [ht]; exact hP9, va_K.moved hW.alike hK9, hD9⟩, hS.F ht⟩) hS.2.2 d_M_copy_55
    · have hcc : Bs.length < pd + cn := (by rw [htb.1]; rcases Nat.lt_or_ge kb (pd + cn) with z | z; exact z; exact absurd ((x_subLe (by omega) (by omega) (by omega)).mpr (by omega)) c_7)
      refine lv_iconst (v := 0) hx hb d_M_copy_22 (by decide) ?_
      have hP9 := hP.sub (ws' := [(h0, .inr (2, [.ref hba, .ref hta, .ref hpi, .int (nI a2_2)])), (hta, .inr (1, [.ref hty, .int (nI k)])), (hty, .inl (cT, 256, .inl (f))), (hba, .inr (1, [.ref hby, .int (nI kb)])), (hby, .inl (cB, 256, .inl (fb))), (hpi, .inl (cP, np, .inl (fp)))]) [4, 0, 1, 2, 3, 5] rfl
      have hD9 := hD.sub (ws' := [(h0, .inr (2, [.ref hba, .ref hta, .ref hpi, .int (nI a2_2)])), (hta, .inr (1, [.ref hty, .int (nI k)])), (hty, .inl (cT, 256, .inl (f))), (hba, .inr (1, [.ref hby, .int (nI kb)])), (hby, .inl (cB, 256, .inl (fb))), (hpi, .inl (cP, np, .inl (fp)))]) [4, 0, 1, 2, 3, 5] (by decide) rfl
      have hK9 := hK.sub (tys' := [(cT, .byte), (cB, .byte), (cP, .byte)]) [0, 1, 2] rfl
      exact W.zret (v := 0) (ty := .boolean) hx hb hr rfl (fun t ht hW => ⟨⟨0, (), rfl, (by rw [show cpc S Bs T a cn = none from by first | exact cpc_0 hq9 | exact cpc_1 hq9 hcc]; rfl), a2_2, k, f, T, ⟨⟨htt, hk, ha2⟩, cmR_n (by first | exact cpc_0 hq9 | exact cpc_1 hq9 hcc)⟩, by rw [ht]; exact hP9, va_K.moved hW.alike hK9, hD9⟩, hS.F ht⟩) hS.2.2 d_M_copy_23
set_option maxHeartbeats 4000000 in
set_option maxRecDepth 100000 in
theorem g_obey (l : Launch) (dC : Nat → ClassId) (dI : Nat → Nat → Nat) (sz : Nat) (h0 : Nat) (hba : Nat) (hta : Nat) (hpi : Nat) (hty : Nat) (cT : ClassId) (k : Nat) (T : List Int32) (hby : Nat) (cB : ClassId) (kb : Nat) (fb : Nat → Int32) (Bs : List Int32) (cP : ClassId) (np : Nat) (fp : Nat → Int32) (S : List Int32) (a : Nat) (f : Nat → Int32) (htt : tx T k f) (htb : tx Bs kb fb) (hs9 : tx S np fp) (hk : k ≤ 256) (hkb : kb ≤ 256) (hn : np ≤ 16384) (ha : a ≤ np) : Met l y_M_obeyCommand k_M_obeyCommand ({ frames := 2, cells := 0, slots := 0, locals := 46 } : Room) (va_Pc [.ref h0] (pc_E (dC, dI) [(h0, .inr (2, [.ref hba, .ref hta, .ref hpi, .int (nI a)])), (hta, .inr (1, [.ref hty, .int (nI k)])), (hty, .inl (cT, 256, .inl (f))), (hba, .inr (1, [.ref hby, .int (nI kb)])), (hby, .inl (cB, 256, .inl (fb))), (hpi, .inl (cP, np, .inl (fp)))] [(cT, .byte), (cB, .byte), (cP, .byte)] sz)) (va_Qi (fun (r : Int32) (_ : Unit) => r = bI (cmd S Bs T a).isSome) (fun (_ : Unit) t => ∃ (a2 : Nat) (k2 : Nat) (f2 : Nat → Int32) (T2 : List Int32), ((tx T2 k2 f2 ∧ k2 ≤ 256 ∧ a2 ≤ np) ∧ cmR (cmd S Bs T a) T2 a2) ∧ at_E (dC, dI) (va_A [(h0, .inr (2, [.ref hba, .ref hta, .ref hpi, .int (nI a)])), (hta, .inr (1, [.ref hty, .int (nI k)])), (hty, .inl (cT, 256, .inl (f))), (hba, .inr (1, [.ref hby, .int (nI kb)])), (hby, .inl (cB, 256, .inl (fb))), (hpi, .inl (cP, np, .inl (fp)))] sz) [(h0, .inr (2, [.ref hba, .ref hta, .ref hpi, .int (nI a2)])), (hta, .inr (1, [.ref hty, .int (nI k2)])), (hty, .inl (cT, 256, .inl (f2))), (hba, .inr (1, [.ref hby, .int (nI kb)])), (hby, .inl (cB, 256, .inl (fb))), (hpi, .inl (cP, np, .inl (fp)))] [(cT, .byte), (cB, .byte), (cP, .byte)] t) (va_A [(h0, .inr (2, [.ref hba, .ref hta, .ref hpi, .int (nI a)])), (hta, .inr (1, [.ref hty, .int (nI k)])), (hty, .inl (cT, 256, .inl (f))), (hba, .inr (1, [.ref hby, .int (nI kb)])), (hby, .inl (cB, 256, .inl (fb))), (hpi, .inl (cP, np, .inl (fp)))] sz)) 0 0 (va_A [(h0, .inr (2, [.ref hba, .ref hta, .ref hpi, .int (nI a)])), (hta, .inr (1, [.ref hty, .int (nI k)])), (hty, .inl (cT, 256, .inl (f))), (hba, .inr (1, [.ref hby, .int (nI kb)])), (hby, .inl (cB, 256, .inl (fb))), (hpi, .inl (cP, np, .inl (fp)))] sz) := by
  refine Met.ofW (cc := prog_3_method_5_code) (maxL := 3) (ret := (some .boolean)) (by decide) rfl ?_
  intro p e s m args below meth c s₁ B hml hv
  obtain ⟨rfl, hsz, hP, hK, hD0, hN⟩ := hv
  have hx := B.exec
  have hb := B.bytes
  have hr := B.returns
  have hts := atoms_spec (ws := k_M_obeyCommand) B.pre
  have hw0 : ∀ w ∈ w0, w.before _ s = true := fun w h => hts w (List.mem_cons_of_mem _ h)
  have hown : s.vm.findClass R_M = some m.cls := findClass_of_methodNamed B.named
  have hlocks := B.notSynchronized
  subst hsz
  have hD := hD0.self (sz := s.heap.size)
  generalize hAe : va_A [(h0, .inr (2, [.ref hba, .ref hta, .ref hpi, .int (nI a)])), (hta, .inr (1, [.ref hty, .int (nI k)])), (hty, .inl (cT, 256, .inl (f))), (hba, .inr (1, [.ref hby, .int (nI kb)])), (hby, .inl (cB, 256, .inl (fb))), (hpi, .inl (cP, np, .inl (fp)))] s.heap.size = A at hD ⊢
  have hA : ∀ q : Nat, s.heap.size ≤ q → A q := fun q h => by rw [← hAe]; exact Or.inr h
  have hS : va_S A s.heap s.heap [] := va_S.rf
  have hP : va_P (dC, dI) vwCl [(h0, .inr (2, [.ref hba, .ref hta, .ref hpi, .int (nI a)])), (hta, .inr (1, [.ref hty, .int (nI k)])), (hty, .inl (cT, 256, .inl (f))), (hba, .inr (1, [.ref hby, .int (nI kb)])), (hby, .inl (cB, 256, .inl (fb))), (hpi, .inl (cP, np, .inl (fp)))] s.heap := hP
  have hl := lv_entry ([.ref h0]) (n := 3) (Nat.le_of_ble_eq_true rfl)
  rw [lg_entry_eq]
  generalize (lg_sl ([.ref h0]) ++ List.replicate (3 - (lg_sl ([.ref h0])).length) Slot.unset).toArray = ls at hl ⊢
  have hl : lv_has ls 3 [(0, .ref h0)] := hl
  refine lv_aload_n hx hb d_M_obeyCommand_0 rfl (lv_at hl 0 rfl) ?_
  have hPc := hP.sub (ws' := [(h0, .inr (2, [.ref hba, .ref hta, .ref hpi, .int (nI a)])), (hpi, .inl (cP, np, .inl ((fp))))]) [0, 5] rfl
  have hKc := hK.sub (tys' := [(cP, .byte)]) [2] rfl
  have hDc := hD.sub (ws' := [(h0, .inr (2, [.ref hba, .ref hta, .ref hpi, .int (nI a)])), (hpi, .inl (cP, np, .inl ((fp))))]) [0, 5] (by decide) rfl
  have hFc := va_free (wc := [(h0, .inr (2, [.ref hba, .ref hta, .ref hpi, .int (nI a)])), (hpi, .inl (cP, np, .inl ((fp))))]) hD hS hA [0, 5] rfl
  refine va_calli (va_runV (As := []) (rest := []) ⟨hx, hb, hml, hown, hw0⟩ (g_readNumber l dC dI s.heap.size h0 (.ref hba) (.ref hta) hpi cP np (fp) _ a (by first | assumption | decide | omega) (by first | assumption | decide | omega) (by first | assumption | decide | omega)) (cwV 0 hw0 (gd_V 185 186 187 87 188 rfl rfl rfl rfl rfl) rfl rfl rfl (by decide +kernel) ⟨by decide +kernel, by decide +kernel⟩) (prV_E hPc hKc hDc hN (va_recv hKc hPc (ci := 2) (q0 := 0) rfl rfl)) rfl rfl hl.1 rfl (lv_room (Nat.le_of_ble_eq_true rfl)) d_M_obeyCommand_1 ⟨by decide +kernel, by decide +kernel⟩) hS (fun q _ h => hFc q h) hFc (fun r_1 u t H1 locs ht hvm hw hB hz1 hk1 hS => ?_)
  obtain ⟨a2_2, hu_3, hP1, hK1, hD1⟩ := hB
  rw [ht] at hP1
  have hK1 := va_K.moved hvm.symm hK1
  try dsimp only at hw
  obtain ⟨hP, hD⟩ := va_join (wr := [(hta, .inr (1, [.ref hty, .int (nI k)])), (hty, .inl (cT, 256, .inl (f))), (hba, .inr (1, [.ref hby, .int (nI kb)])), (hby, .inl (cB, 256, .inl (fb)))]) (w1 := [(h0, .inr (2, [.ref hba, .ref hta, .ref hpi, .int (nI a2_2)])), (hpi, .inl (cP, np, .inl ((fp))))]) hP hD [0, 5] [1, 2, 3, 4] rfl rfl (by decide) (by decide) hk1 hFc hP1 hD1
  generalize H1 = H at hP hS ⊢
  replace hP : va_P (dC, dI) vwCl [(hta, .inr (1, [.ref hty, .int (nI k)])), (hty, .inl (cT, 256, .inl (f))), (hba, .inr (1, [.ref hby, .int (nI kb)])), (hby, .inl (cB, 256, .inl (fb))), (h0, .inr (2, [.ref hba, .ref hta, .ref hpi, .int (nI a2_2)])), (hpi, .inl (cP, np, .inl ((fp))))] H := hP
  replace hD : va_D A [(hta, .inr (1, [.ref hty, .int (nI k)])), (hty, .inl (cT, 256, .inl (f))), (hba, .inr (1, [.ref hby, .int (nI kb)])), (hby, .inl (cB, 256, .inl (fb))), (h0, .inr (2, [.ref hba, .ref hta, .ref hpi, .int (nI a2_2)])), (hpi, .inl (cP, np, .inl ((fp))))] := hD
  replace hK : va_K (dC, dI) vwCl [(cT, .byte), (cB, .byte), (cP, .byte)] s := hK
  have hw_4 := hw
  rcases hq9 : (rd S a).1 with _ | hv
  · rw [hq9] at hw_4; obtain rfl : r_1 = -1 := hw_4; have ha2 : a2_2 ≤ np := (by have h8 := rd_le (S := S) (a := a) (by rw [hs9.1]; exact ha); rw [hs9.1] at h8; omega)
    refine lv_istore_n (lv' := [(1, .int (-1)), (0, .ref h0)]) hx hb d_M_obeyCommand_4 rfl hl (by decide) rfl (fun ls hl => ?_)
    refine lv_iload_n hx hb d_M_obeyCommand_5 rfl (lv_at hl 0 rfl) ?_
    refine lv_iconst (v := 2) hx hb d_M_obeyCommand_6 (by decide) ?_
    refine lv_idiv hx hb d_M_obeyCommand_7 (by decide +kernel) ?_
    refine lv_topi (fun x_5 ex_5 => ?_)
    obtain rfl : x_5 = 0 := ex_5.trans (by decide +kernel)
    clear ex_5
    refine lv_istore_n (lv' := [(2, .int 0), (1, .int (-1)), (0, .ref h0)]) hx hb d_M_obeyCommand_8 rfl hl (by decide) rfl (fun ls hl => ?_)
    refine lv_iload_n hx hb d_M_obeyCommand_9 rfl (lv_at hl 1 rfl) ?_
    refine lv_if_lt (tgt := 28) hx hb d_M_obeyCommand_10 (by decide) (fun _ => ?_) (fun h9 => absurd h9 (by decide +kernel))
    refine lv_iconst (v := 0) hx hb d_M_obeyCommand_28 (by decide) ?_
    have hP9 := hP.sub (ws' := [(h0, .inr (2, [.ref hba, .ref hta, .ref hpi, .int (nI a2_2)])), (hta, .inr (1, [.ref hty, .int (nI k)])), (hty, .inl (cT, 256, .inl (f))), (hba, .inr (1, [.ref hby, .int (nI kb)])), (hby, .inl (cB, 256, .inl (fb))), (hpi, .inl (cP, np, .inl (fp)))]) [4, 0, 1, 2, 3, 5] rfl
    have hD9 := hD.sub (ws' := [(h0, .inr (2, [.ref hba, .ref hta, .ref hpi, .int (nI a2_2)])), (hta, .inr (1, [.ref hty, .int (nI k)])), (hty, .inl (cT, 256, .inl (f))), (hba, .inr (1, [.ref hby, .int (nI kb)])), (hby, .inl (cB, 256, .inl (fb))), (hpi, .inl (cP, np, .inl (fp)))]) [4, 0, 1, 2, 3, 5] (by decide) rfl
    have hK9 := hK.sub (tys' := [(cT, .byte), (cB, .byte), (cP, .byte)]) [0, 1, 2] rfl
    exact W.zret (v := 0) (ty := .boolean) hx hb hr rfl (fun t ht hW => ⟨⟨0, (), rfl, (by rw [(show cmd S Bs T a = none from by first | exact cmd_0 hq9 | exact cmd_1 hq9 (Or.inl hz9) | exact cmd_1 hq9 (Or.inr hro9))]; rfl), a2_2, k, f, T, ⟨⟨htt, hk, ha2⟩, cmR_n (show cmd S Bs T a = none from by first | exact cmd_0 hq9 | exact cmd_1 hq9 (Or.inl hz9) | exact cmd_1 hq9 (Or.inr hro9))⟩, by rw [ht]; exact hP9, va_K.moved hW.alike hK9, hD9⟩, hS.F ht⟩) hS.2.2 d_M_obeyCommand_29
  · rw [hq9] at hw_4; obtain rfl : r_1 = nI hv := hw_4; have ha2 : a2_2 ≤ np := (by have h8 := rd_le (S := S) (a := a) (by rw [hs9.1]; exact ha); rw [hs9.1] at h8; omega); have hd9 := (rd_some hq9).1
    refine lv_istore_n (lv' := [(1, .int (nI hv)), (0, .ref h0)]) hx hb d_M_obeyCommand_4 rfl hl (by decide) rfl (fun ls hl => ?_)
    refine lv_iload_n hx hb d_M_obeyCommand_5 rfl (lv_at hl 0 rfl) ?_
    refine lv_iconst (v := 2) hx hb d_M_obeyCommand_6 (by decide) ?_
    refine lv_idiv hx hb d_M_obeyCommand_7 (by decide +kernel) ?_
    refine lv_topi (fun x_6 ex_6 => ?_)
    obtain rfl : x_6 = (nI (hv / 2)) := by rw [ex_6]; exact (show nI hv / nI 2 = nI (hv / 2) from pk_div (by omega) (by decide) (by decide))
    clear ex_6
    refine lv_istore_n (lv' := [(2, .int (nI (hv / 2))), (1, .int (nI hv)), (0, .ref h0)]) hx hb d_M_obeyCommand_8 rfl hl (by decide) rfl (fun ls hl => ?_)
    refine lv_iload_n hx hb d_M_obeyCommand_9 rfl (lv_at hl 1 rfl) ?_
    refine lv_if_lt (tgt := 28) hx hb d_M_obeyCommand_10 (by decide) (fun c_7 => absurd c_7 (nI_pos (by omega))) (fun c_7 => ?_)
    refine lv_iload_n hx hb d_M_obeyCommand_13 rfl (lv_at hl 0 rfl) ?_
    refine lv_if_eq (tgt := 28) hx hb d_M_obeyCommand_14 (by decide) (fun c_8 => ?_) (fun c_8 => ?_)
    · have hz9 : hv / 2 = 0 := (by rcases Nat.eq_zero_or_pos (hv / 2) with z | z; exact z; exact absurd c_8 (nI_ne0 z (by omega)))
      refine lv_iconst (v := 0) hx hb d_M_obeyCommand_28 (by decide) ?_
      have hP9 := hP.sub (ws' := [(h0, .inr (2, [.ref hba, .ref hta, .ref hpi, .int (nI a2_2)])), (hta, .inr (1, [.ref hty, .int (nI k)])), (hty, .inl (cT, 256, .inl (f))), (hba, .inr (1, [.ref hby, .int (nI kb)])), (hby, .inl (cB, 256, .inl (fb))), (hpi, .inl (cP, np, .inl (fp)))]) [4, 0, 1, 2, 3, 5] rfl
      have hD9 := hD.sub (ws' := [(h0, .inr (2, [.ref hba, .ref hta, .ref hpi, .int (nI a2_2)])), (hta, .inr (1, [.ref hty, .int (nI k)])), (hty, .inl (cT, 256, .inl (f))), (hba, .inr (1, [.ref hby, .int (nI kb)])), (hby, .inl (cB, 256, .inl (fb))), (hpi, .inl (cP, np, .inl (fp)))]) [4, 0, 1, 2, 3, 5] (by decide) rfl
      have hK9 := hK.sub (tys' := [(cT, .byte), (cB, .byte), (cP, .byte)]) [0, 1, 2] rfl
      exact W.zret (v := 0) (ty := .boolean) hx hb hr rfl (fun t ht hW => ⟨⟨0, (), rfl, (by rw [(show cmd S Bs T a = none from by first | exact cmd_0 hq9 | exact cmd_1 hq9 (Or.inl hz9) | exact cmd_1 hq9 (Or.inr hro9))]; rfl), a2_2, k, f, T, ⟨⟨htt, hk, ha2⟩, cmR_n (show cmd S Bs T a = none from by first | exact cmd_0 hq9 | exact cmd_1 hq9 (Or.inl hz9) | exact cmd_1 hq9 (Or.inr hro9))⟩, by rw [ht]; exact hP9, va_K.moved hW.alike hK9, hD9⟩, hS.F ht⟩) hS.2.2 d_M_obeyCommand_29
    · have hz8 : ¬ hv / 2 = 0 := (fun z => c_8 (by rw [z]; rfl))
      refine lv_aload_n hx hb d_M_obeyCommand_17 rfl (lv_at hl 2 rfl) ?_
      refine va_get (D := (dC, dI)) (ci := 2) (v := .ref hta) (C := R_M) (T := F_M) (N := 4) hx hb hw0 in_M hown hK hP 4 rfl rfl 1 (by decide) (hw0 (.fieldLink R_M 18 "TextKeeper$Maker" "text" "LTextKeeper$Text;") (List.mem_of_getElem? (i := 74) rfl)) (fun _ h9 => h9) rfl d_M_obeyCommand_18 ?_
      refine lv_iload_n hx hb d_M_obeyCommand_21 rfl (lv_at hl 0 rfl) ?_
      have hPc := hP.sub (ws' := [(hta, .inr (1, [.ref hty, .int (nI k)]))]) [0] rfl
      have hKc := hK.sub (tys' := []) [] rfl
      refine ps_i (va_runV (As := [.int (nI (hv / 2))]) (rest := []) ⟨hx, hb, hml, hown, hw0⟩ (g_hasRoom l dC dI hta (.ref hty) k (hv / 2) (by first | assumption | decide | omega) (by first | assumption | decide | omega)) (cwV 1 hw0 (gd_V 189 190 191 69 192 rfl rfl rfl rfl rfl) rfl rfl rfl (by decide +kernel) ⟨by decide +kernel, by decide +kernel⟩) (prV_R hPc hKc hN (va_recv hKc hPc (ci := 1) (q0 := 0) rfl rfl)) rfl rfl hl.1 rfl (lv_room (Nat.le_of_ble_eq_true rfl)) d_M_obeyCommand_22 ⟨by decide +kernel, by decide +kernel⟩) (fun r_9 hr_9 => ?_)
      obtain rfl : r_9 = (bI (decide ((hv / 2) + k ≤ 256))) := hr_9
      refine lv_if_ne (tgt := 30) hx hb d_M_obeyCommand_25 (by decide) (fun c_10 => ?_) (fun c_10 => ?_)
      · have hro : hv / 2 + k ≤ 256 := bI_ne c_10
        refine lv_iload_n hx hb d_M_obeyCommand_30 rfl (lv_at hl 1 rfl) ?_
        refine lv_iconst (v := 2) hx hb d_M_obeyCommand_31 (by decide) ?_
        refine lv_irem hx hb d_M_obeyCommand_32 (by decide +kernel) ?_
        refine lv_topi (fun x_11 ex_11 => ?_)
        obtain rfl : x_11 = (nI (hv % 2)) := by rw [ex_11]; exact (show nI hv - nI hv / nI 2 * nI 2 = nI (hv % 2) from pk_rem (by omega) (by decide) (by decide))
        clear ex_11
        refine lv_if_ne (tgt := 44) hx hb d_M_obeyCommand_33 (by decide) (fun c_12 => ?_) (fun c_12 => ?_)
        · have hod : ¬ hv % 2 = 0 := (fun z => c_12 (by rw [z]; rfl))
          refine lv_aload_n hx hb d_M_obeyCommand_44 rfl (lv_at hl 2 rfl) ?_
          refine lv_iload_n hx hb d_M_obeyCommand_45 rfl (lv_at hl 0 rfl) ?_
          have hPc := hP.sub (ws' := [(h0, .inr (2, [.ref hba, .ref hta, .ref hpi, .int (nI a2_2)])), (hta, .inr (1, [.ref hty, .int (nI k)])), (hty, .inl (cT, 256, .inl ((f)))), (hba, .inr (1, [.ref hby, .int (nI kb)])), (hby, .inl (cB, 256, .inl ((fb)))), (hpi, .inl (cP, np, .inl (((fp)))))]) [4, 0, 1, 2, 3, 5] rfl
          have hKc := hK.sub (tys' := [(cT, .byte), (cB, .byte), (cP, .byte)]) [0, 1, 2] rfl
          have hDc := hD.sub (ws' := [(h0, .inr (2, [.ref hba, .ref hta, .ref hpi, .int (nI a2_2)])), (hta, .inr (1, [.ref hty, .int (nI k)])), (hty, .inl (cT, 256, .inl ((f)))), (hba, .inr (1, [.ref hby, .int (nI kb)])), (hby, .inl (cB, 256, .inl ((fb)))), (hpi, .inl (cP, np, .inl (((fp)))))]) [4, 0, 1, 2, 3, 5] (by decide) rfl
          have hFc := va_free (wc := [(h0, .inr (2, [.ref hba, .ref hta, .ref hpi, .int (nI a2_2)])), (hta, .inr (1, [.ref hty, .int (nI k)])), (hty, .inl (cT, 256, .inl ((f)))), (hba, .inr (1, [.ref hby, .int (nI kb)])), (hby, .inl (cB, 256, .inl ((fb)))), (hpi, .inl (cP, np, .inl (((fp)))))]) hD hS hA [4, 0, 1, 2, 3, 5] rfl
          refine va_calli (va_runV (As := [.int (nI (hv / 2))]) (rest := []) ⟨hx, hb, hml, hown, hw0⟩ (g_copy l dC dI H.size h0 hba hta hpi hty cT k _ hby cB kb (fb) _ cP np ((fp)) _ a2_2 (f) (hv / 2) (by first | assumption | decide | omega) (by first | assumption | decide | omega) (by first | assumption | decide | omega) (by first | assumption | decide | omega) (by first | assumption | decide | omega) (by first | assumption | decide | omega) (by first | assumption | decide | omega) (by first | assumption | decide | omega)) (cwV 1 hw0 (gd_V 193 194 195 87 196 rfl rfl rfl rfl rfl) rfl rfl rfl (by decide +kernel) ⟨by decide +kernel, by decide +kernel⟩) (prV_E hPc hKc hDc hN (va_recv hKc hPc (ci := 2) (q0 := 0) rfl rfl)) rfl rfl hl.1 rfl (lv_room (Nat.le_of_ble_eq_true rfl)) d_M_obeyCommand_46 ⟨by decide +kernel, by decide +kernel⟩) hS (fun q _ h => hFc q h) hFc (fun r_13 u t H1 locs ht hvm hw hB hz1 hk1 hS => ?_)
          obtain ⟨a2_14, k2_15, f2_16, T2_17, ⟨hu_18_0, hu_18_1⟩, hP1, hK1, hD1⟩ := hB
          rw [ht] at hP1
          have hK1 := va_K.moved hvm.symm hK1
          try dsimp only at hw
          obtain ⟨hP, hD⟩ := va_join (wr := []) (w1 := [(h0, .inr (2, [.ref hba, .ref hta, .ref hpi, .int (nI a2_14)])), (hta, .inr (1, [.ref hty, .int (nI k2_15)])), (hty, .inl (cT, 256, .inl (f2_16))), (hba, .inr (1, [.ref hby, .int (nI kb)])), (hby, .inl (cB, 256, .inl ((fb)))), (hpi, .inl (cP, np, .inl (((fp)))))]) hP hD [4, 0, 1, 2, 3, 5] [] rfl rfl (by decide) (by decide) hk1 hFc hP1 hD1
          generalize H1 = H at hP hS ⊢
          replace hP : va_P (dC, dI) vwCl [(h0, .inr (2, [.ref hba, .ref hta, .ref hpi, .int (nI a2_14)])), (hta, .inr (1, [.ref hty, .int (nI k2_15)])), (hty, .inl (cT, 256, .inl (f2_16))), (hba, .inr (1, [.ref hby, .int (nI kb)])), (hby, .inl (cB, 256, .inl ((fb)))), (hpi, .inl (cP, np, .inl (((fp)))))] H := hP
          replace hD : va_D A [(h0, .inr (2, [.ref hba, .ref hta, .ref hpi, .int (nI a2_14)])), (hta, .inr (1, [.ref hty, .int (nI k2_15)])), (hty, .inl (cT, 256, .inl (f2_16))), (hba, .inr (1, [.ref hby, .int (nI kb)])), (hby, .inl (cB, 256, .inl ((fb)))), (hpi, .inl (cP, np, .inl (((fp)))))] := hD
          replace hK : va_K (dC, dI) vwCl [(cT, .byte), (cB, .byte), (cP, .byte)] s := hK
          have hw_19 := hw
          · obtain rfl : r_13 = bI (cmd S Bs T a).isSome := (by rw [cmd_5 hq9 (by rw [htt.1]; omega) hod, ← hu_3]; exact hw_19)
            have hP9 := hP.sub (ws' := [(h0, .inr (2, [.ref hba, .ref hta, .ref hpi, .int (nI a2_14)])), (hta, .inr (1, [.ref hty, .int (nI k2_15)])), (hty, .inl (cT, 256, .inl (f2_16))), (hba, .inr (1, [.ref hby, .int (nI kb)])), (hby, .inl (cB, 256, .inl (fb))), (hpi, .inl (cP, np, .inl (fp)))]) [0, 1, 2, 3, 4, 5] rfl
            have hD9 := hD.sub (ws' := [(h0, .inr (2, [.ref hba, .ref hta, .ref hpi, .int (nI a2_14)])), (hta, .inr (1, [.ref hty, .int (nI k2_15)])), (hty, .inl (cT, 256, .inl (f2_16))), (hba, .inr (1, [.ref hby, .int (nI kb)])), (hby, .inl (cB, 256, .inl (fb))), (hpi, .inl (cP, np, .inl (fp)))]) [0, 1, 2, 3, 4, 5] (by decide) rfl
            have hK9 := hK.sub (tys' := [(cT, .byte), (cB, .byte), (cP, .byte)]) [0, 1, 2] rfl
            exact W.zret (v := (bI (cmd S Bs T a).isSome)) (ty := .boolean) hx hb hr (nar_bI _) (fun t ht hW => ⟨⟨(bI (cmd S Bs T a).isSome), (), rfl, rfl, a2_14, k2_15, f2_16, T2_17, ⟨hu_18_0, (by rw [cmd_5 hq9 (by rw [htt.1]; omega) hod, ← hu_3]; exact hu_18_1)⟩, by rw [ht]; exact hP9, va_K.moved hW.alike hK9, hD9⟩, hS.F ht⟩) hS.2.2 d_M_obeyCommand_49
        · have hev : hv % 2 = 0 := (by rcases Nat.eq_zero_or_pos (hv % 2) with z | z; exact z; exact absurd c_12 (nI_ne0 z (by omega)))
          refine lv_aload_n hx hb d_M_obeyCommand_36 rfl (lv_at hl 2 rfl) ?_
          refine lv_iload_n hx hb d_M_obeyCommand_37 rfl (lv_at hl 0 rfl) ?_
          have hPc := hP.sub (ws' := [(h0, .inr (2, [.ref hba, .ref hta, .ref hpi, .int (nI a2_2)])), (hta, .inr (1, [.ref hty, .int (nI k)])), (hty, .inl (cT, 256, .inl ((f)))), (hba, .inr (1, [.ref hby, .int (nI kb)])), (hby, .inl (cB, 256, .inl ((fb)))), (hpi, .inl (cP, np, .inl (((fp)))))]) [4, 0, 1, 2, 3, 5] rfl
          have hKc := hK.sub (tys' := [(cT, .byte), (cB, .byte), (cP, .byte)]) [0, 1, 2] rfl
          have hDc := hD.sub (ws' := [(h0, .inr (2, [.ref hba, .ref hta, .ref hpi, .int (nI a2_2)])), (hta, .inr (1, [.ref hty, .int (nI k)])), (hty, .inl (cT, 256, .inl ((f)))), (hba, .inr (1, [.ref hby, .int (nI kb)])), (hby, .inl (cB, 256, .inl ((fb)))), (hpi, .inl (cP, np, .inl (((fp)))))]) [4, 0, 1, 2, 3, 5] (by decide) rfl
          have hFc := va_free (wc := [(h0, .inr (2, [.ref hba, .ref hta, .ref hpi, .int (nI a2_2)])), (hta, .inr (1, [.ref hty, .int (nI k)])), (hty, .inl (cT, 256, .inl ((f)))), (hba, .inr (1, [.ref hby, .int (nI kb)])), (hby, .inl (cB, 256, .inl ((fb)))), (hpi, .inl (cP, np, .inl (((fp)))))]) hD hS hA [4, 0, 1, 2, 3, 5] rfl
          refine va_calli (va_runV (As := [.int (nI (hv / 2))]) (rest := []) ⟨hx, hb, hml, hown, hw0⟩ (g_insert l dC dI H.size h0 hba hta hpi hty cT k _ hby cB kb (fb) _ cP np ((fp)) _ a2_2 (f) (hv / 2) (by first | assumption | decide | omega) (by first | assumption | decide | omega) (by first | assumption | decide | omega) (by first | assumption | decide | omega) (by first | assumption | decide | omega) (by first | assumption | decide | omega) (by first | assumption | decide | omega) (by first | assumption | decide | omega)) (cwV 1 hw0 (gd_V 197 198 199 87 200 rfl rfl rfl rfl rfl) rfl rfl rfl (by decide +kernel) ⟨by decide +kernel, by decide +kernel⟩) (prV_E hPc hKc hDc hN (va_recv hKc hPc (ci := 2) (q0 := 0) rfl rfl)) rfl rfl hl.1 rfl (lv_room (Nat.le_of_ble_eq_true rfl)) d_M_obeyCommand_38 ⟨by decide +kernel, by decide +kernel⟩) hS (fun q _ h => hFc q h) hFc (fun r_20 u t H1 locs ht hvm hw hB hz1 hk1 hS => ?_)
          obtain ⟨a2_21, k2_22, f2_23, T2_24, ⟨hu_25_0, hu_25_1⟩, hP1, hK1, hD1⟩ := hB
          rw [ht] at hP1
          have hK1 := va_K.moved hvm.symm hK1
          try dsimp only at hw
          obtain ⟨hP, hD⟩ := va_join (wr := []) (w1 := [(h0, .inr (2, [.ref hba, .ref hta, .ref hpi, .int (nI a2_21)])), (hta, .inr (1, [.ref hty, .int (nI k2_22)])), (hty, .inl (cT, 256, .inl (f2_23))), (hba, .inr (1, [.ref hby, .int (nI kb)])), (hby, .inl (cB, 256, .inl ((fb)))), (hpi, .inl (cP, np, .inl (((fp)))))]) hP hD [4, 0, 1, 2, 3, 5] [] rfl rfl (by decide) (by decide) hk1 hFc hP1 hD1
          generalize H1 = H at hP hS ⊢
          replace hP : va_P (dC, dI) vwCl [(h0, .inr (2, [.ref hba, .ref hta, .ref hpi, .int (nI a2_21)])), (hta, .inr (1, [.ref hty, .int (nI k2_22)])), (hty, .inl (cT, 256, .inl (f2_23))), (hba, .inr (1, [.ref hby, .int (nI kb)])), (hby, .inl (cB, 256, .inl ((fb)))), (hpi, .inl (cP, np, .inl (((fp)))))] H := hP
          replace hD : va_D A [(h0, .inr (2, [.ref hba, .ref hta, .ref hpi, .int (nI a2_21)])), (hta, .inr (1, [.ref hty, .int (nI k2_22)])), (hty, .inl (cT, 256, .inl (f2_23))), (hba, .inr (1, [.ref hby, .int (nI kb)])), (hby, .inl (cB, 256, .inl ((fb)))), (hpi, .inl (cP, np, .inl (((fp)))))] := hD
          replace hK : va_K (dC, dI) vwCl [(cT, .byte), (cB, .byte), (cP, .byte)] s := hK
          have hw_26 := hw
          · obtain rfl : r_20 = bI (cmd S Bs T a).isSome := (by rw [cmd_2 hq9 (by rw [htt.1]; omega) hev, ← hu_3]; exact hw_26)
            refine lv_goto (tgt := 49) hx hb d_M_obeyCommand_41 (by decide) ?_
            have hP9 := hP.sub (ws' := [(h0, .inr (2, [.ref hba, .ref hta, .ref hpi, .int (nI a2_21)])), (hta, .inr (1, [.ref hty, .int (nI k2_22)])), (hty, .inl (cT, 256, .inl (f2_23))), (hba, .inr (1, [.ref hby, .int (nI kb)])), (hby, .inl (cB, 256, .inl (fb))), (hpi, .inl (cP, np, .inl (fp)))]) [0, 1, 2, 3, 4, 5] rfl
            have hD9 := hD.sub (ws' := [(h0, .inr (2, [.ref hba, .ref hta, .ref hpi, .int (nI a2_21)])), (hta, .inr (1, [.ref hty, .int (nI k2_22)])), (hty, .inl (cT, 256, .inl (f2_23))), (hba, .inr (1, [.ref hby, .int (nI kb)])), (hby, .inl (cB, 256, .inl (fb))), (hpi, .inl (cP, np, .inl (fp)))]) [0, 1, 2, 3, 4, 5] (by decide) rfl
            have hK9 := hK.sub (tys' := [(cT, .byte), (cB, .byte), (cP, .byte)]) [0, 1, 2] rfl
            exact W.zret (v := (bI (cmd S Bs T a).isSome)) (ty := .boolean) hx hb hr (nar_bI _) (fun t ht hW => ⟨⟨(bI (cmd S Bs T a).isSome), (), rfl, rfl, a2_21, k2_22, f2_23, T2_24, ⟨hu_25_0, (by rw [cmd_2 hq9 (by rw [htt.1]; omega) hev, ← hu_3]; exact hu_25_1)⟩, by rw [ht]; exact hP9, va_K.moved hW.alike hK9, hD9⟩, hS.F ht⟩) hS.2.2 d_M_obeyCommand_49
      · have hro9 : 256 < T.length + hv / 2 := (by have h8 := bI_e0 c_10; rw [htt.1]; omega)
        refine lv_iconst (v := 0) hx hb d_M_obeyCommand_28 (by decide) ?_
        have hP9 := hP.sub (ws' := [(h0, .inr (2, [.ref hba, .ref hta, .ref hpi, .int (nI a2_2)])), (hta, .inr (1, [.ref hty, .int (nI k)])), (hty, .inl (cT, 256, .inl (f))), (hba, .inr (1, [.ref hby, .int (nI kb)])), (hby, .inl (cB, 256, .inl (fb))), (hpi, .inl (cP, np, .inl (fp)))]) [4, 0, 1, 2, 3, 5] rfl
        have hD9 := hD.sub (ws' := [(h0, .inr (2, [.ref hba, .ref hta, .ref hpi, .int (nI a2_2)])), (hta, .inr (1, [.ref hty, .int (nI k)])), (hty, .inl (cT, 256, .inl (f))), (hba, .inr (1, [.ref hby, .int (nI kb)])), (hby, .inl (cB, 256, .inl (fb))), (hpi, .inl (cP, np, .inl (fp)))]) [4, 0, 1, 2, 3, 5] (by decide) rfl
        have hK9 := hK.sub (tys' := [(cT, .byte), (cB, .byte), (cP, .byte)]) [0, 1, 2] rfl
        exact W.zret (v := 0) (ty := .boolean) hx hb hr rfl (fun t ht hW => ⟨⟨0, (), rfl, (by rw [(show cmd S Bs T a = none from by first | exact cmd_0 hq9 | exact cmd_1 hq9 (Or.inl hz9) | exact cmd_1 hq9 (Or.inr hro9))]; rfl), a2_2, k, f, T, ⟨⟨htt, hk, ha2⟩, cmR_n (show cmd S Bs T a = none from by first | exact cmd_0 hq9 | exact cmd_1 hq9 (Or.inl hz9) | exact cmd_1 hq9 (Or.inr hro9))⟩, by rw [ht]; exact hP9, va_K.moved hW.alike hK9, hD9⟩, hS.F ht⟩) hS.2.2 d_M_obeyCommand_29
set_option maxHeartbeats 4000000 in
set_option maxRecDepth 100000 in
theorem lo_cmi {p : Program} {l : Launch} {e : Env} {s : State} {m : MethodId} {args : Array Value} {below : List Frame} {meth : Method} {c : Code} {dC : Nat → ClassId} {dI : Nat → Nat → Nat} {A : Nat → Prop} {Q : State → Prop} (h0 : Nat) (i_thrown : Int32) (i_down : Int32) (i_lasts : Int32) (v_buffer : Value) (i_size : Int32) (i_documents : Int32) (v_gone : Value) (v_first : Value) (v_many : Value) (v_lengths : Value) (v_authors : Value) (v_sums : Value) (v_text : Value) (i_textSize : Int32) (i_textSteps : Int32) (v_other : Value) (i_otherSize : Int32) (v_piece : Value) (i_pieceSize : Int32) (i_value : Int32) (hmade : Nat) (cM : ClassId) (k : Nat) (hbase : Nat) (cB : ClassId) (kb : Nat) (fb : Nat → Int32) (Bs : List Int32) (hrow : Nat) (cW : ClassId) (fr : Nat → Int32) (S : List Int32) (ab : Nat) (en : Nat) (b0 : Nat) (T : List Int32) (a : Nat) (cn : Nat) (pl : Nat) (htb : tx Bs kb fb) (hsx : sx S b0 fr) (hk : k ≤ 256) (hkb : kb ≤ 256) (hen : en = b0 + S.length) (hc : k + cn ≤ 256) (hpl : pl = b0 + a) (hac : a + cn ≤ S.length)
    (hx : p.tables.exec = Jvm.exec) (hb : c.code = prog_9_method_18_code) (hml : c.maxLocals = 5) (hown : s.vm.findClass R_O = some m.cls) (hw0 : ∀ w ∈ w0, w.before args s = true) (hN : nw_ok s) (hK : va_K (dC, dI) vwCl [(cM, .byte), (cB, .byte), (cW, .byte)] s) (hA : ∀ q : Nat, s.heap.size ≤ q → A q)
    (kk : ∀ (f : Nat → Int32), (tx (T ++ (S.drop a).take cn) (k + cn) f) → ∀ (H : Heap) (locs : List Loc), va_P (dC, dI) vwCl [(h0, .inr (7, [.int i_thrown, .int i_down, .int i_lasts, v_buffer, .int i_size, .int i_documents, v_gone, v_first, v_many, v_lengths, v_authors, v_sums, .ref hrow, .ref hmade, .int (nI (k + cn)), .ref hbase, .int (nI kb), v_text, .int i_textSize, .int i_textSteps, v_other, .int i_otherSize, v_piece, .int i_pieceSize, .int (nI ab), .int (nI en), .int i_value])), (hmade, .inl (cM, 256, .inl (f))), (hbase, .inl (cB, 256, .inl (fb))), (hrow, .inl (cW, 16384, .inl (fr)))] H → va_D A [(h0, .inr (7, [.int i_thrown, .int i_down, .int i_lasts, v_buffer, .int i_size, .int i_documents, v_gone, v_first, v_many, v_lengths, v_authors, v_sums, .ref hrow, .ref hmade, .int (nI (k + cn)), .ref hbase, .int (nI kb), v_text, .int i_textSize, .int i_textSteps, v_other, .int i_otherSize, v_piece, .int i_pieceSize, .int (nI ab), .int (nI en), .int i_value])), (hmade, .inl (cM, 256, .inl (f))), (hbase, .inl (cB, 256, .inl (fb))), (hrow, .inl (cW, 16384, .inl (fr)))] → va_S A s.heap H locs → ∀ ls : Array Slot, lv_has ls 5 [(4, .int (nI cn)), (0, .ref h0), (1, .int (nI cn)), (2, .int 0), (3, .int (nI pl))] → W p l e ({ frames := 1, cells := 0, slots := 0, locals := 22 } : Room) s m args below meth c H locs 0 0 Q (F0 m 159 ls [])) :
    ∀ (n j : Nat), j ≤ cn → cn < j + n → ∀ (f : Nat → Int32), (tx (T ++ (S.drop a).take j) (k + j) f) → ∀ (H : Heap) (locs : List Loc), va_P (dC, dI) vwCl [(h0, .inr (7, [.int i_thrown, .int i_down, .int i_lasts, v_buffer, .int i_size, .int i_documents, v_gone, v_first, v_many, v_lengths, v_authors, v_sums, .ref hrow, .ref hmade, .int (nI (k + j)), .ref hbase, .int (nI kb), v_text, .int i_textSize, .int i_textSteps, v_other, .int i_otherSize, v_piece, .int i_pieceSize, .int (nI ab), .int (nI en), .int i_value])), (hmade, .inl (cM, 256, .inl (f))), (hbase, .inl (cB, 256, .inl (fb))), (hrow, .inl (cW, 16384, .inl (fr)))] H → va_D A [(h0, .inr (7, [.int i_thrown, .int i_down, .int i_lasts, v_buffer, .int i_size, .int i_documents, v_gone, v_first, v_many, v_lengths, v_authors, v_sums, .ref hrow, .ref hmade, .int (nI (k + j)), .ref hbase, .int (nI kb), v_text, .int i_textSize, .int i_textSteps, v_other, .int i_otherSize, v_piece, .int i_pieceSize, .int (nI ab), .int (nI en), .int i_value])), (hmade, .inl (cM, 256, .inl (f))), (hbase, .inl (cB, 256, .inl (fb))), (hrow, .inl (cW, 16384, .inl (fr)))] → va_S A s.heap H locs → ∀ ls : Array Slot, lv_has ls 5 [(4, .int (nI j)), (0, .ref h0), (1, .int (nI cn)), (2, .int 0), (3, .int (nI pl))] → W p l e ({ frames := 1, cells := 0, slots := 0, locals := 22 } : Room) s m args below meth c H locs 0 0 Q (F0 m 103 ls []) := by
  intro n
  induction n with
  | zero => intro j h1 h2; exact absurd h2 (by omega)
  | succ n ih =>
    intro j hj hn f hf0 H locs hP hD hS ls hl
    refine lv_iload hx hb d_O_command_103 (lv_at hl 0 rfl) ?_
    refine lv_iload_n hx hb d_O_command_105 rfl (lv_at hl 2 rfl) ?_
    refine lv_icmp_ge (tgt := 159) hx hb d_O_command_106 (by decide) (fun c_1 => ?_) (fun c_1 => ?_)
    · obtain rfl : j = cn := x_geN (by omega) hj c_1
      exact kk f hf0 _ _ hP hD hS ls (lv_sub hl [0, 1, 2, 3, 4] rfl)
    · have hlt : j < cn := x_ltN (by omega) hj c_1; have hl9 := hsx.2.2
      refine lv_aload_n hx hb d_O_command_109 rfl (lv_at hl 1 rfl) ?_
      refine va_get (D := (dC, dI)) (ci := 7) (v := .ref hmade) (C := R_O) (T := F_O) (N := 27) hx hb hw0 in_O hown hK hP 0 rfl rfl 13 (by decide) (hw0 (.fieldLink R_O 41 "TextKeeperModel" "made" "[B") (List.mem_of_getElem? (i := 166) rfl)) (fun _ h9 => h9) rfl d_O_command_110 ?_
      refine lv_aload_n hx hb d_O_command_113 rfl (lv_at hl 1 rfl) ?_
      refine va_get (D := (dC, dI)) (ci := 7) (v := .int (nI (k + j))) (C := R_O) (T := F_O) (N := 27) hx hb hw0 in_O hown hK hP 0 rfl rfl 14 (by decide) (hw0 (.fieldLink R_O 113 "TextKeeperModel" "madeSize" "I") (List.mem_of_getElem? (i := 164) rfl)) (fun _ h9 => h9) rfl d_O_command_114 ?_
      refine lv_iload_n hx hb d_O_command_117 rfl (lv_at hl 3 rfl) ?_
      refine lv_if_eq (tgt := 133) hx hb d_O_command_118 (by decide) (fun _ => ?_) (fun h9 => absurd h9 (by decide +kernel))
      refine lv_aload_n hx hb d_O_command_133 rfl (lv_at hl 1 rfl) ?_
      refine va_get (D := (dC, dI)) (ci := 7) (v := .ref hrow) (C := R_O) (T := F_O) (N := 27) hx hb hw0 in_O hown hK hP 0 rfl rfl 12 (by decide) (hw0 (.fieldLink R_O 38 "TextKeeperModel" "row" "[B") (List.mem_of_getElem? (i := 182) rfl)) (fun _ h9 => h9) rfl d_O_command_134 ?_
      refine lv_iload_n hx hb d_O_command_137 rfl (lv_at hl 4 rfl) ?_
      refine lv_iload hx hb d_O_command_138 (lv_at hl 0 rfl) ?_
      refine lv_iadd hx hb d_O_command_140 ?_
      refine lv_topi (fun x_2 ex_2 => ?_)
      obtain rfl : x_2 = (nI (pl + j)) := by rw [ex_2]; exact nI_add pl j
      clear ex_2
      refine va_bald hx hb hK hP 3 2 rfl rfl (vp_in_nI (by omega) (by decide)) d_O_command_141 ?_
      refine lv_topi (fun x_3 ex_3 => ?_)
      refine va_bast hx hb hK hP hD hS 1 0 rfl rfl (vp_in_nI (by omega) (by decide)) d_O_command_142 (fun H locs hP hD hS => ?_)
      replace hP : va_P (dC, dI) vwCl [(h0, .inr (7, [.int i_thrown, .int i_down, .int i_lasts, v_buffer, .int i_size, .int i_documents, v_gone, v_first, v_many, v_lengths, v_authors, v_sums, .ref hrow, .ref hmade, .int (nI (k + j)), .ref hbase, .int (nI kb), v_text, .int i_textSize, .int i_textSteps, v_other, .int i_otherSize, v_piece, .int i_pieceSize, .int (nI ab), .int (nI en), .int i_value])), (hmade, .inl (cM, 256, .inl (upd (f) (Int32.toNatClampNeg (nI (k + j))) (vp_nar .byte (x_3))))), (hbase, .inl (cB, 256, .inl (fb))), (hrow, .inl (cW, 16384, .inl (fr)))] H := hP
      replace hD : va_D A [(h0, .inr (7, [.int i_thrown, .int i_down, .int i_lasts, v_buffer, .int i_size, .int i_documents, v_gone, v_first, v_many, v_lengths, v_authors, v_sums, .ref hrow, .ref hmade, .int (nI (k + j)), .ref hbase, .int (nI kb), v_text, .int i_textSize, .int i_textSteps, v_other, .int i_otherSize, v_piece, .int i_pieceSize, .int (nI ab), .int (nI en), .int i_value])), (hmade, .inl (cM, 256, .inl (upd (f) (Int32.toNatClampNeg (nI (k + j))) (vp_nar .byte (x_3))))), (hbase, .inl (cB, 256, .inl (fb))), (hrow, .inl (cW, 16384, .inl (fr)))] := hD
      have eS : upd (f) (Int32.toNatClampNeg (nI (k + j))) (vp_nar .byte (x_3)) = upd f (k + j) (nbb x_3) := by rw [nI_clamp (by omega)]; exact congrArg (upd f (k + j)) (vp_nar_byte x_3)
      rw [eS] at hP hD
      refine lv_aload_n hx hb d_O_command_143 rfl (lv_at hl 1 rfl) ?_
      refine lv_dup hx hb d_O_command_144 rfl ?_
      refine va_get (D := (dC, dI)) (ci := 7) (v := .int (nI (k + j))) (C := R_O) (T := F_O) (N := 27) hx hb hw0 in_O hown hK hP 0 rfl rfl 14 (by decide) (hw0 (.fieldLink R_O 113 "TextKeeperModel" "madeSize" "I") (List.mem_of_getElem? (i := 164) rfl)) (fun _ h9 => h9) rfl d_O_command_145 ?_
      refine lv_iconst (v := 1) hx hb d_O_command_148 (by decide) ?_
      refine lv_iadd hx hb d_O_command_149 ?_
      refine lv_topi (fun x_4 ex_4 => ?_)
      obtain rfl : x_4 = (nI (k + j + 1)) := by rw [ex_4]; exact nI_1 (k + j)
      clear ex_4
      refine va_put (D := (dC, dI)) (ci := 7) (v := .int (nI (k + j + 1))) (ty := .int) (C := R_O) (T := F_O) (N := 27) hx hb hw0 in_O ft_O tk_O nk_O hown hK hP hD hS 0 rfl rfl 14 (by decide) (hw0 (.fieldLink R_O 113 "TextKeeperModel" "madeSize" "I") (List.mem_of_getElem? (i := 164) rfl)) (fun _ h9 => h9) rfl (by decide +kernel) rfl rfl (Nat.le_of_ble_eq_true rfl) d_O_command_150 (fun H locs hP hD hS => ?_)
      replace hP : va_P (dC, dI) vwCl [(h0, .inr (7, [.int i_thrown, .int i_down, .int i_lasts, v_buffer, .int i_size, .int i_documents, v_gone, v_first, v_many, v_lengths, v_authors, v_sums, .ref hrow, .ref hmade, .int (nI (k + j + 1)), .ref hbase, .int (nI kb), v_text, .int i_textSize, .int i_textSteps, v_other, .int i_otherSize, v_piece, .int i_pieceSize, .int (nI ab), .int (nI en), .int i_value])), (hmade, .inl (cM, 256, .inl ((upd f (k + j) (nbb x_3))))), (hbase, .inl (cB, 256, .inl (fb))), (hrow, .inl (cW, 16384, .inl (fr)))] H := hP
      replace hD : va_D A [(h0, .inr (7, [.int i_thrown, .int i_down, .int i_lasts, v_buffer, .int i_size, .int i_documents, v_gone, v_first, v_many, v_lengths, v_authors, v_sums, .ref hrow, .ref hmade, .int (nI (k + j + 1)), .ref hbase, .int (nI kb), v_text, .int i_textSize, .int i_textSteps, v_other, .int i_otherSize, v_piece, .int i_pieceSize, .int (nI ab), .int (nI en), .int i_value])), (hmade, .inl (cM, 256, .inl ((upd f (k + j) (nbb x_3))))), (hbase, .inl (cB, 256, .inl (fb))), (hrow, .inl (cW, 16384, .inl (fr)))] := hD
      refine lv_iinc (v := nI (j + 1)) (lv' := [(4, .int (nI (j + 1))), (0, .ref h0), (1, .int (nI cn)), (2, .int 0), (3, .int (nI pl))]) hx hb d_O_command_153 hl (k := 0) rfl (nI_1 j) (by decide) rfl (fun ls hl => ?_)
      refine lv_goto (tgt := 103) hx hb d_O_command_156 (by decide) ?_
      have eq9 : k + j + 1 = k + (j + 1) := by omega
      rw [eq9] at hP hD
      exact ih (j + 1) hlt (by omega) (upd f (k + j) (nbb x_3)) (y_sx hsx hpl (by omega) (by omega) ex_3 hf0) _ _ (hP.sub (ws' := [(h0, .inr (7, [.int i_thrown, .int i_down, .int i_lasts, v_buffer, .int i_size, .int i_documents, v_gone, v_first, v_many, v_lengths, v_authors, v_sums, .ref hrow, .ref hmade, .int (nI (k + (j + 1))), .ref hbase, .int (nI kb), v_text, .int i_textSize, .int i_textSteps, v_other, .int i_otherSize, v_piece, .int i_pieceSize, .int (nI ab), .int (nI en), .int i_value])), (hmade, .inl (cM, 256, .inl ((upd f (k + j) (nbb x_3))))), (hbase, .inl (cB, 256, .inl (fb))), (hrow, .inl (cW, 16384, .inl (fr)))]) [0, 1, 2, 3] rfl) (hD.sub (ws' := [(h0, .inr (7, [.int i_thrown, .int i_down, .int i_lasts, v_buffer, .int i_size, .int i_documents, v_gone, v_first, v_many, v_lengths, v_authors, v_sums, .ref hrow, .ref hmade, .int (nI (k + (j + 1))), .ref hbase, .int (nI kb), v_text, .int i_textSize, .int i_textSteps, v_other, .int i_otherSize, v_piece, .int i_pieceSize, .int (nI ab), .int (nI en), .int i_value])), (hmade, .inl (cM, 256, .inl ((upd f (k + j) (nbb x_3))))), (hbase, .inl (cB, 256, .inl (fb))), (hrow, .inl (cW, 16384, .inl (fr)))]) [0, 1, 2, 3] (by decide) rfl) hS ls (lv_sub hl [0, 1, 2, 3, 4] rfl)
set_option maxHeartbeats 4000000 in
set_option maxRecDepth 100000 in
theorem lo_cmc {p : Program} {l : Launch} {e : Env} {s : State} {m : MethodId} {args : Array Value} {below : List Frame} {meth : Method} {c : Code} {dC : Nat → ClassId} {dI : Nat → Nat → Nat} {A : Nat → Prop} {Q : State → Prop} (h0 : Nat) (i_thrown : Int32) (i_down : Int32) (i_lasts : Int32) (v_buffer : Value) (i_size : Int32) (i_documents : Int32) (v_gone : Value) (v_first : Value) (v_many : Value) (v_lengths : Value) (v_authors : Value) (v_sums : Value) (v_text : Value) (i_textSize : Int32) (i_textSteps : Int32) (v_other : Value) (i_otherSize : Int32) (v_piece : Value) (i_pieceSize : Int32) (i_value : Int32) (hmade : Nat) (cM : ClassId) (k : Nat) (hbase : Nat) (cB : ClassId) (kb : Nat) (fb : Nat → Int32) (Bs : List Int32) (hrow : Nat) (cW : ClassId) (fr : Nat → Int32) (S : List Int32) (ab : Nat) (en : Nat) (b0 : Nat) (T : List Int32) (a : Nat) (cn : Nat) (pl : Nat) (htb : tx Bs kb fb) (hsx : sx S b0 fr) (hk : k ≤ 256) (hkb : kb ≤ 256) (hen : en = b0 + S.length) (hc : k + cn ≤ 256) (hac : pl + cn ≤ kb)
    (hx : p.tables.exec = Jvm.exec) (hb : c.code = prog_9_method_18_code) (hml : c.maxLocals = 5) (hown : s.vm.findClass R_O = some m.cls) (hw0 : ∀ w ∈ w0, w.before args s = true) (hN : nw_ok s) (hK : va_K (dC, dI) vwCl [(cM, .byte), (cB, .byte), (cW, .byte)] s) (hA : ∀ q : Nat, s.heap.size ≤ q → A q)
    (kk : ∀ (f : Nat → Int32), (tx (T ++ (Bs.drop pl).take cn) (k + cn) f) → ∀ (H : Heap) (locs : List Loc), va_P (dC, dI) vwCl [(h0, .inr (7, [.int i_thrown, .int i_down, .int i_lasts, v_buffer, .int i_size, .int i_documents, v_gone, v_first, v_many, v_lengths, v_authors, v_sums, .ref hrow, .ref hmade, .int (nI (k + cn)), .ref hbase, .int (nI kb), v_text, .int i_textSize, .int i_textSteps, v_other, .int i_otherSize, v_piece, .int i_pieceSize, .int (nI ab), .int (nI en), .int i_value])), (hmade, .inl (cM, 256, .inl (f))), (hbase, .inl (cB, 256, .inl (fb))), (hrow, .inl (cW, 16384, .inl (fr)))] H → va_D A [(h0, .inr (7, [.int i_thrown, .int i_down, .int i_lasts, v_buffer, .int i_size, .int i_documents, v_gone, v_first, v_many, v_lengths, v_authors, v_sums, .ref hrow, .ref hmade, .int (nI (k + cn)), .ref hbase, .int (nI kb), v_text, .int i_textSize, .int i_textSteps, v_other, .int i_otherSize, v_piece, .int i_pieceSize, .int (nI ab), .int (nI en), .int i_value])), (hmade, .inl (cM, 256, .inl (f))), (hbase, .inl (cB, 256, .inl (fb))), (hrow, .inl (cW, 16384, .inl (fr)))] → va_S A s.heap H locs → ∀ ls : Array Slot, lv_has ls 5 [(4, .int (nI cn)), (0, .ref h0), (1, .int (nI cn)), (2, .int 1), (3, .int (nI pl))] → W p l e ({ frames := 1, cells := 0, slots := 0, locals := 22 } : Room) s m args below meth c H locs 0 0 Q (F0 m 159 ls [])) :
    ∀ (n j : Nat), j ≤ cn → cn < j + n → ∀ (f : Nat → Int32), (tx (T ++ (Bs.drop pl).take j) (k + j) f) → ∀ (H : Heap) (locs : List Loc), va_P (dC, dI) vwCl [(h0, .inr (7, [.int i_thrown, .int i_down, .int i_lasts, v_buffer, .int i_size, .int i_documents, v_gone, v_first, v_many, v_lengths, v_authors, v_sums, .ref hrow, .ref hmade, .int (nI (k + j)), .ref hbase, .int (nI kb), v_text, .int i_textSize, .int i_textSteps, v_other, .int i_otherSize, v_piece, .int i_pieceSize, .int (nI ab), .int (nI en), .int i_value])), (hmade, .inl (cM, 256, .inl (f))), (hbase, .inl (cB, 256, .inl (fb))), (hrow, .inl (cW, 16384, .inl (fr)))] H → va_D A [(h0, .inr (7, [.int i_thrown, .int i_down, .int i_lasts, v_buffer, .int i_size, .int i_documents, v_gone, v_first, v_many, v_lengths, v_authors, v_sums, .ref hrow, .ref hmade, .int (nI (k + j)), .ref hbase, .int (nI kb), v_text, .int i_textSize, .int i_textSteps, v_other, .int i_otherSize, v_piece, .int i_pieceSize, .int (nI ab), .int (nI en), .int i_value])), (hmade, .inl (cM, 256, .inl (f))), (hbase, .inl (cB, 256, .inl (fb))), (hrow, .inl (cW, 16384, .inl (fr)))] → va_S A s.heap H locs → ∀ ls : Array Slot, lv_has ls 5 [(4, .int (nI j)), (0, .ref h0), (1, .int (nI cn)), (2, .int 1), (3, .int (nI pl))] → W p l e ({ frames := 1, cells := 0, slots := 0, locals := 22 } : Room) s m args below meth c H locs 0 0 Q (F0 m 103 ls []) := by
  intro n
  induction n with
  | zero => intro j h1 h2; exact absurd h2 (by omega)
  | succ n ih =>
    intro j hj hn f hf0 H locs hP hD hS ls hl
    refine lv_iload hx hb d_O_command_103 (lv_at hl 0 rfl) ?_
    refine lv_iload_n hx hb d_O_command_105 rfl (lv_at hl 2 rfl) ?_
    refine lv_icmp_ge (tgt := 159) hx hb d_O_command_106 (by decide) (fun c_1 => ?_) (fun c_1 => ?_)
    · obtain rfl : j = cn := x_geN (by omega) hj c_1
      exact kk f hf0 _ _ hP hD hS ls (lv_sub hl [0, 1, 2, 3, 4] rfl)
    · have hlt : j < cn := x_ltN (by omega) hj c_1; have hl9 := hsx.2.2
      refine lv_aload_n hx hb d_O_command_109 rfl (lv_at hl 1 rfl) ?_
      refine va_get (D := (dC, dI)) (ci := 7) (v := .ref hmade) (C := R_O) (T := F_O) (N := 27) hx hb hw0 in_O hown hK hP 0 rfl rfl 13 (by decide) (hw0 (.fieldLink R_O 41 "TextKeeperModel" "made" "[B") (List.mem_of_getElem? (i := 166) rfl)) (fun _ h9 => h9) rfl d_O_command_110 ?_
      refine lv_aload_n hx hb d_O_command_113 rfl (lv_at hl 1 rfl) ?_
      refine va_get (D := (dC, dI)) (ci := 7) (v := .int (nI (k + j))) (C := R_O) (T := F_O) (N := 27) hx hb hw0 in_O hown hK hP 0 rfl rfl 14 (by decide) (hw0 (.fieldLink R_O 113 "TextKeeperModel" "madeSize" "I") (List.mem_of_getElem? (i := 164) rfl)) (fun _ h9 => h9) rfl d_O_command_114 ?_
      refine lv_iload_n hx hb d_O_command_117 rfl (lv_at hl 3 rfl) ?_
      refine lv_if_eq (tgt := 133) hx hb d_O_command_118 (by decide) (fun h9 => absurd h9 (by decide +kernel)) (fun _ => ?_)
      refine lv_aload_n hx hb d_O_command_121 rfl (lv_at hl 1 rfl) ?_
      refine va_get (D := (dC, dI)) (ci := 7) (v := .ref hbase) (C := R_O) (T := F_O) (N := 27) hx hb hw0 in_O hown hK hP 0 rfl rfl 15 (by decide) (hw0 (.fieldLink R_O 44 "TextKeeperModel" "base" "[B") (List.mem_of_getElem? (i := 201) rfl)) (fun _ h9 => h9) rfl d_O_command_122 ?_
      refine lv_iload_n hx hb d_O_command_125 rfl (lv_at hl 4 rfl) ?_
      refine lv_iload hx hb d_O_command_126 (lv_at hl 0 rfl) ?_
      refine lv_iadd hx hb d_O_command_128 ?_
      refine lv_topi (fun x_2 ex_2 => ?_)
      obtain rfl : x_2 = (nI (pl + j)) := by rw [ex_2]; exact nI_add pl j
      clear ex_2
      refine va_bald hx hb hK hP 2 1 rfl rfl (vp_in_nI (by omega) (by decide)) d_O_command_129 ?_
      refine lv_topi (fun x_3 ex_3 => ?_)
      refine lv_goto (tgt := 142) hx hb d_O_command_130 (by decide) ?_
      refine va_bast hx hb hK hP hD hS 1 0 rfl rfl (vp_in_nI (by omega) (by decide)) d_O_command_142 (fun H locs hP hD hS => ?_)
      replace hP : va_P (dC, dI) vwCl [(h0, .inr (7, [.int i_thrown, .int i_down, .int i_lasts, v_buffer, .int i_size, .int i_documents, v_gone, v_first, v_many, v_lengths, v_authors, v_sums, .ref hrow, .ref hmade, .int (nI (k + j)), .ref hbase, .int (nI kb), v_text, .int i_textSize, .int i_textSteps, v_other, .int i_otherSize, v_piece, .int i_pieceSize, .int (nI ab), .int (nI en), .int i_value])), (hmade, .inl (cM, 256, .inl (upd (f) (Int32.toNatClampNeg (nI (k + j))) (vp_nar .byte (x_3))))), (hbase, .inl (cB, 256, .inl (fb))), (hrow, .inl (cW, 16384, .inl (fr)))] H := hP
      replace hD : va_D A [(h0, .inr (7, [.int i_thrown, .int i_down, .int i_lasts, v_buffer, .int i_size, .int i_documents, v_gone, v_first, v_many, v_lengths, v_authors, v_sums, .ref hrow, .ref hmade, .int (nI (k + j)), .ref hbase, .int (nI kb), v_text, .int i_textSize, .int i_textSteps, v_other, .int i_otherSize, v_piece, .int i_pieceSize, .int (nI ab), .int (nI en), .int i_value])), (hmade, .inl (cM, 256, .inl (upd (f) (Int32.toNatClampNeg (nI (k + j))) (vp_nar .byte (x_3))))), (hbase, .inl (cB, 256, .inl (fb))), (hrow, .inl (cW, 16384, .inl (fr)))] := hD
      have eS : upd (f) (Int32.toNatClampNeg (nI (k + j))) (vp_nar .byte (x_3)) = upd f (k + j) (nbb x_3) := by rw [nI_clamp (by omega)]; exact congrArg (upd f (k + j)) (vp_nar_byte x_3)
      rw [eS] at hP hD
      refine lv_aload_n hx hb d_O_command_143 rfl (lv_at hl 1 rfl) ?_
      refine lv_dup hx hb d_O_command_144 rfl ?_
      refine va_get (D := (dC, dI)) (ci := 7) (v := .int (nI (k + j))) (C := R_O) (T := F_O) (N := 27) hx hb hw0 in_O hown hK hP 0 rfl rfl 14 (by decide) (hw0 (.fieldLink R_O 113 "TextKeeperModel" "madeSize" "I") (List.mem_of_getElem? (i := 164) rfl)) (fun _ h9 => h9) rfl d_O_command_145 ?_
      refine lv_iconst (v := 1) hx hb d_O_command_148 (by decide) ?_
      refine lv_iadd hx hb d_O_command_149 ?_
      refine lv_topi (fun x_4 ex_4 => ?_)
      obtain rfl : x_4 = (nI (k + j + 1)) := by rw [ex_4]; exact nI_1 (k + j)
      clear ex_4
      refine va_put (D := (dC, dI)) (ci := 7) (v := .int (nI (k + j + 1))) (ty := .int) (C := R_O) (T := F_O) (N := 27) hx hb hw0 in_O ft_O tk_O nk_O hown hK hP hD hS 0 rfl rfl 14 (by decide) (hw0 (.fieldLink R_O 113 "TextKeeperModel" "madeSize" "I") (List.mem_of_getElem? (i := 164) rfl)) (fun _ h9 => h9) rfl (by decide +kernel) rfl rfl (Nat.le_of_ble_eq_true rfl) d_O_command_150 (fun H locs hP hD hS => ?_)
      replace hP : va_P (dC, dI) vwCl [(h0, .inr (7, [.int i_thrown, .int i_down, .int i_lasts, v_buffer, .int i_size, .int i_documents, v_gone, v_first, v_many, v_lengths, v_authors, v_sums, .ref hrow, .ref hmade, .int (nI (k + j + 1)), .ref hbase, .int (nI kb), v_text, .int i_textSize, .int i_textSteps, v_other, .int i_otherSize, v_piece, .int i_pieceSize, .int (nI ab), .int (nI en), .int i_value])), (hmade, .inl (cM, 256, .inl ((upd f (k + j) (nbb x_3))))), (hbase, .inl (cB, 256, .inl (fb))), (hrow, .inl (cW, 16384, .inl (fr)))] H := hP
      replace hD : va_D A [(h0, .inr (7, [.int i_thrown, .int i_down, .int i_lasts, v_buffer, .int i_size, .int i_documents, v_gone, v_first, v_many, v_lengths, v_authors, v_sums, .ref hrow, .ref hmade, .int (nI (k + j + 1)), .ref hbase, .int (nI kb), v_text, .int i_textSize, .int i_textSteps, v_other, .int i_otherSize, v_piece, .int i_pieceSize, .int (nI ab), .int (nI en), .int i_value])), (hmade, .inl (cM, 256, .inl ((upd f (k + j) (nbb x_3))))), (hbase, .inl (cB, 256, .inl (fb))), (hrow, .inl (cW, 16384, .inl (fr)))] := hD
      refine lv_iinc (v := nI (j + 1)) (lv' := [(4, .int (nI (j + 1))), (0, .ref h0), (1, .int (nI cn)), (2, .int 1), (3, .int (nI pl))]) hx hb d_O_command_153 hl (k := 0) rfl (nI_1 j) (by decide) rfl (fun ls hl => ?_)
      refine lv_goto (tgt := 103) hx hb d_O_command_156 (by decide) ?_
      have eq9 : k + j + 1 = k + (j + 1) := by omega
      rw [eq9] at hP hD
      exact ih (j + 1) hlt (by omega) (upd f (k + j) (nbb x_3)) (y_bx htb (by omega) (by omega) (by omega) ex_3 hf0) _ _ (hP.sub (ws' := [(h0, .inr (7, [.int i_thrown, .int i_down, .int i_lasts, v_buffer, .int i_size, .int i_documents, v_gone, v_first, v_many, v_lengths, v_authors, v_sums, .ref hrow, .ref hmade, .int (nI (k + (j + 1))), .ref hbase, .int (nI kb), v_text, .int i_textSize, .int i_textSteps, v_other, .int i_otherSize, v_piece, .int i_pieceSize, .int (nI ab), .int (nI en), .int i_value])), (hmade, .inl (cM, 256, .inl ((upd f (k + j) (nbb x_3))))), (hbase, .inl (cB, 256, .inl (fb))), (hrow, .inl (cW, 16384, .inl (fr)))]) [0, 1, 2, 3] rfl) (hD.sub (ws' := [(h0, .inr (7, [.int i_thrown, .int i_down, .int i_lasts, v_buffer, .int i_size, .int i_documents, v_gone, v_first, v_many, v_lengths, v_authors, v_sums, .ref hrow, .ref hmade, .int (nI (k + (j + 1))), .ref hbase, .int (nI kb), v_text, .int i_textSize, .int i_textSteps, v_other, .int i_otherSize, v_piece, .int i_pieceSize, .int (nI ab), .int (nI en), .int i_value])), (hmade, .inl (cM, 256, .inl ((upd f (k + j) (nbb x_3))))), (hbase, .inl (cB, 256, .inl (fb))), (hrow, .inl (cW, 16384, .inl (fr)))]) [0, 1, 2, 3] (by decide) rfl) hS ls (lv_sub hl [0, 1, 2, 3, 4] rfl)
set_option maxHeartbeats 4000000 in
set_option maxRecDepth 100000 in
theorem o_command (l : Launch) (dC : Nat → ClassId) (dI : Nat → Nat → Nat) (sz : Nat) (h0 : Nat) (i_thrown : Int32) (i_down : Int32) (i_lasts : Int32) (v_buffer : Value) (i_size : Int32) (i_documents : Int32) (v_gone : Value) (v_first : Value) (v_many : Value) (v_lengths : Value) (v_authors : Value) (v_sums : Value) (v_text : Value) (i_textSize : Int32) (i_textSteps : Int32) (v_other : Value) (i_otherSize : Int32) (v_piece : Value) (i_pieceSize : Int32) (i_value : Int32) (hmade : Nat) (cM : ClassId) (k : Nat) (T : List Int32) (hbase : Nat) (cB : ClassId) (kb : Nat) (fb : Nat → Int32) (Bs : List Int32) (hrow : Nat) (cW : ClassId) (fr : Nat → Int32) (S : List Int32) (ab : Nat) (en : Nat) (b0 : Nat) (a : Nat) (f : Nat → Int32) (htt : tx T k f) (htb : tx Bs kb fb) (hsx : sx S b0 fr) (hk : k ≤ 256) (hkb : kb ≤ 256) (hab : ab = b0 + a) (hen : en = b0 + S.length) (ha : a ≤ S.length) : Met l y_O_command k_O_command ({ frames := 1, cells := 0, slots := 0, locals := 22 } : Room) (va_Pc [.ref h0] (pc_E (dC, dI) [(h0, .inr (7, [.int i_thrown, .int i_down, .int i_lasts, v_buffer, .int i_size, .int i_documents, v_gone, v_first, v_many, v_lengths, v_authors, v_sums, .ref hrow, .ref hmade, .int (nI k), .ref hbase, .int (nI kb), v_text, .int i_textSize, .int i_textSteps, v_other, .int i_otherSize, v_piece, .int i_pieceSize, .int (nI ab), .int (nI en), .int i_value])), (hmade, .inl (cM, 256, .inl (f))), (hbase, .inl (cB, 256, .inl (fb))), (hrow, .inl (cW, 16384, .inl (fr)))] [(cM, .byte), (cB, .byte), (cW, .byte)] sz)) (va_Qi (fun (r : Int32) (_ : Unit) => r = bI (cmd S Bs T a).isSome) (fun (_ : Unit) t => ∃ (a2 : Nat) (ab2 : Nat) (k2 : Nat) (f2 : Nat → Int32) (T2 : List Int32) (vv : Int32), ((tx T2 k2 f2 ∧ k2 ≤ 256 ∧ ab2 = b0 + a2 ∧ a2 ≤ S.length) ∧ cmR (cmd S Bs T a) T2 a2) ∧ at_E (dC, dI) (va_A [(h0, .inr (7, [.int i_thrown, .int i_down, .int i_lasts, v_buffer, .int i_size, .int i_documents, v_gone, v_first, v_many, v_lengths, v_authors, v_sums, .ref hrow, .ref hmade, .int (nI k), .ref hbase, .int (nI kb), v_text, .int i_textSize, .int i_textSteps, v_other, .int i_otherSize, v_piece, .int i_pieceSize, .int (nI ab), .int (nI en), .int i_value])), (hmade, .inl (cM, 256, .inl (f))), (hbase, .inl (cB, 256, .inl (fb))), (hrow, .inl (cW, 16384, .inl (fr)))] sz) [(h0, .inr (7, [.int i_thrown, .int i_down, .int i_lasts, v_buffer, .int i_size, .int i_documents, v_gone, v_first, v_many, v_lengths, v_authors, v_sums, .ref hrow, .ref hmade, .int (nI k2), .ref hbase, .int (nI kb), v_text, .int i_textSize, .int i_textSteps, v_other, .int i_otherSize, v_piece, .int i_pieceSize, .int (nI ab2), .int (nI en), .int vv])), (hmade, .inl (cM, 256, .inl (f2))), (hbase, .inl (cB, 256, .inl (fb))), (hrow, .inl (cW, 16384, .inl (fr)))] [(cM, .byte), (cB, .byte), (cW, .byte)] t) (va_A [(h0, .inr (7, [.int i_thrown, .int i_down, .int i_lasts, v_buffer, .int i_size, .int i_documents, v_gone, v_first, v_many, v_lengths, v_authors, v_sums, .ref hrow, .ref hmade, .int (nI k), .ref hbase, .int (nI kb), v_text, .int i_textSize, .int i_textSteps, v_other, .int i_otherSize, v_piece, .int i_pieceSize, .int (nI ab), .int (nI en), .int i_value])), (hmade, .inl (cM, 256, .inl (f))), (hbase, .inl (cB, 256, .inl (fb))), (hrow, .inl (cW, 16384, .inl (fr)))] sz)) 0 0 (va_A [(h0, .inr (7, [.int i_thrown, .int i_down, .int i_lasts, v_buffer, .int i_size, .int i_documents, v_gone, v_first, v_many, v_lengths, v_authors, v_sums, .ref hrow, .ref hmade, .int (nI k), .ref hbase, .int (nI kb), v_text, .int i_textSize, .int i_textSteps, v_other, .int i_otherSize, v_piece, .int i_pieceSize, .int (nI ab), .int (nI en), .int i_value])), (hmade, .inl (cM, 256, .inl (f))), (hbase, .inl (cB, 256, .inl (fb))), (hrow, .inl (cW, 16384, .inl (fr)))] sz) := by
  refine Met.ofW (cc := prog_9_method_18_code) (maxL := 5) (ret := (some .boolean)) (by decide) rfl ?_
  intro p e s m args below meth c s₁ B hml hv
  obtain ⟨rfl, hsz, hP, hK, hD0, hN⟩ := hv
  have hx := B.exec
  have hb := B.bytes
  have hr := B.returns
  have hts := atoms_spec (ws := k_O_command) B.pre
  have hw0 : ∀ w ∈ w0, w.before _ s = true := fun w h => hts w (List.mem_cons_of_mem _ h)
  have hown : s.vm.findClass R_O = some m.cls := findClass_of_methodNamed B.named
  have hlocks := B.notSynchronized
  subst hsz
  have hD := hD0.self (sz := s.heap.size)
  generalize hAe : va_A [(h0, .inr (7, [.int i_thrown, .int i_down, .int i_lasts, v_buffer, .int i_size, .int i_documents, v_gone, v_first, v_many, v_lengths, v_authors, v_sums, .ref hrow, .ref hmade, .int (nI k), .ref hbase, .int (nI kb), v_text, .int i_textSize, .int i_textSteps, v_other, .int i_otherSize, v_piece, .int i_pieceSize, .int (nI ab), .int (nI en), .int i_value])), (hmade, .inl (cM, 256, .inl (f))), (hbase, .inl (cB, 256, .inl (fb))), (hrow, .inl (cW, 16384, .inl (fr)))] s.heap.size = A at hD ⊢
  have hA : ∀ q : Nat, s.heap.size ≤ q → A q := fun q h => by rw [← hAe]; exact Or.inr h
  have hS : va_S A s.heap s.heap [] := va_S.rf
  have hP : va_P (dC, dI) vwCl [(h0, .inr (7, [.int i_thrown, .int i_down, .int i_lasts, v_buffer, .int i_size, .int i_documents, v_gone, v_first, v_many, v_lengths, v_authors, v_sums, .ref hrow, .ref hmade, .int (nI k), .ref hbase, .int (nI kb), v_text, .int i_textSize, .int i_textSteps, v_other, .int i_otherSize, v_piece, .int i_pieceSize, .int (nI ab), .int (nI en), .int i_value])), (hmade, .inl (cM, 256, .inl (f))), (hbase, .inl (cB, 256, .inl (fb))), (hrow, .inl (cW, 16384, .inl (fr)))] s.heap := hP
  have hl := lv_entry ([.ref h0]) (n := 5) (Nat.le_of_ble_eq_true rfl)
  rw [lg_entry_eq]
  generalize (lg_sl ([.ref h0]) ++ List.replicate (5 - (lg_sl ([.ref h0])).length) Slot.unset).toArray = ls at hl ⊢
  have hl : lv_has ls 5 [(0, .ref h0)] := hl
  have hl9 := hsx.2.2
  refine lv_aload_n hx hb d_O_command_0 rfl (lv_at hl 0 rfl) ?_
  have hPc := hP.sub (ws' := [(h0, .inr (7, [.int i_thrown, .int i_down, .int i_lasts, v_buffer, .int i_size, .int i_documents, v_gone, v_first, v_many, v_lengths, v_authors, v_sums, .ref hrow, .ref hmade, .int (nI k), .ref hbase, .int (nI kb), v_text, .int i_textSize, .int i_textSteps, v_other, .int i_otherSize, v_piece, .int i_pieceSize, .int (nI ab), .int (nI en), .int i_value])), (hrow, .inl (cW, 16384, .inl ((fr))))]) [0, 3] rfl
  have hKc := hK.sub (tys' := [(cW, .byte)]) [2] rfl
  have hDc := hD.sub (ws' := [(h0, .inr (7, [.int i_thrown, .int i_down, .int i_lasts, v_buffer, .int i_size, .int i_documents, v_gone, v_first, v_many, v_lengths, v_authors, v_sums, .ref hrow, .ref hmade, .int (nI k), .ref hbase, .int (nI kb), v_text, .int i_textSize, .int i_textSteps, v_other, .int i_otherSize, v_piece, .int i_pieceSize, .int (nI ab), .int (nI en), .int i_value])), (hrow, .inl (cW, 16384, .inl ((fr))))]) [0, 3] (by decide) rfl
  have hFc := va_free (wc := [(h0, .inr (7, [.int i_thrown, .int i_down, .int i_lasts, v_buffer, .int i_size, .int i_documents, v_gone, v_first, v_many, v_lengths, v_authors, v_sums, .ref hrow, .ref hmade, .int (nI k), .ref hbase, .int (nI kb), v_text, .int i_textSize, .int i_textSteps, v_other, .int i_otherSize, v_piece, .int i_pieceSize, .int (nI ab), .int (nI en), .int i_value])), (hrow, .inl (cW, 16384, .inl ((fr))))]) hD hS hA [0, 3] rfl
  refine va_calli (va_runV (As := []) (rest := []) ⟨hx, hb, hml, hown, hw0⟩ (o_number l dC dI s.heap.size h0 i_thrown i_down i_lasts v_buffer i_size i_documents v_gone v_first v_many v_lengths v_authors v_sums (.ref hmade) (nI k) (.ref hbase) (nI kb) v_text i_textSize i_textSteps v_other i_otherSize v_piece i_pieceSize i_value hrow cW (fr) _ ab en _ _ (by first | assumption | decide | omega) (by first | assumption | decide | omega) (by first | assumption | decide | omega) (by first | assumption | decide | omega)) (cwV 0 hw0 (gd_V 202 203 204 161 205 rfl rfl rfl rfl rfl) rfl rfl rfl (by decide +kernel) ⟨by decide +kernel, by decide +kernel⟩) (prV_E hPc hKc hDc hN (va_recv hKc hPc (ci := 7) (q0 := 0) rfl rfl)) rfl rfl hl.1 rfl (lv_room (Nat.le_of_ble_eq_true rfl)) d_O_command_1 ⟨by decide +kernel, by decide +kernel⟩) hS (fun q _ h => hFc q h) hFc (fun r_1 u t H1 locs ht hvm hw hB hz1 hk1 hS => ?_)
  obtain ⟨a2_2, vv_3, ⟨hu_4_0, hu_4_1⟩, hP1, hK1, hD1⟩ := hB
  rw [ht] at hP1
  have hK1 := va_K.moved hvm.symm hK1
  try dsimp only at hw
  obtain ⟨hP, hD⟩ := va_join (wr := [(hmade, .inl (cM, 256, .inl (f))), (hbase, .inl (cB, 256, .inl (fb)))]) (w1 := [(h0, .inr (7, [.int i_thrown, .int i_down, .int i_lasts, v_buffer, .int i_size, .int i_documents, v_gone, v_first, v_many, v_lengths, v_authors, v_sums, .ref hrow, .ref hmade, .int (nI k), .ref hbase, .int (nI kb), v_text, .int i_textSize, .int i_textSteps, v_other, .int i_otherSize, v_piece, .int i_pieceSize, .int (nI a2_2), .int (nI en), .int vv_3])), (hrow, .inl (cW, 16384, .inl ((fr))))]) hP hD [0, 3] [1, 2] rfl rfl (by decide) (by decide) hk1 hFc hP1 hD1
  generalize H1 = H at hP hS ⊢
  replace hP : va_P (dC, dI) vwCl [(hmade, .inl (cM, 256, .inl (f))), (hbase, .inl (cB, 256, .inl (fb))), (h0, .inr (7, [.int i_thrown, .int i_down, .int i_lasts, v_buffer, .int i_size, .int i_documents, v_gone, v_first, v_many, v_lengths, v_authors, v_sums, .ref hrow, .ref hmade, .int (nI k), .ref hbase, .int (nI kb), v_text, .int i_textSize, .int i_textSteps, v_other, .int i_otherSize, v_piece, .int i_pieceSize, .int (nI a2_2), .int (nI en), .int vv_3])), (hrow, .inl (cW, 16384, .inl ((fr))))] H := hP
  replace hD : va_D A [(hmade, .inl (cM, 256, .inl (f))), (hbase, .inl (cB, 256, .inl (fb))), (h0, .inr (7, [.int i_thrown, .int i_down, .int i_lasts, v_buffer, .int i_size, .int i_documents, v_gone, v_first, v_many, v_lengths, v_authors, v_sums, .ref hrow, .ref hmade, .int (nI k), .ref hbase, .int (nI kb), v_text, .int i_textSize, .int i_textSteps, v_other, .int i_otherSize, v_piece, .int i_pieceSize, .int (nI a2_2), .int (nI en), .int vv_3])), (hrow, .inl (cW, 16384, .inl ((fr))))] := hD
  replace hK : va_K (dC, dI) vwCl [(cM, .byte), (cB, .byte), (cW, .byte)] s := hK
  have hw_5 := hw
  have ha2 : (rd S a).2 ≤ S.length := rd_le ha
  rcases hq9 : (rd S a).1 with _ | hv
  · rw [hq9] at hw_5; obtain rfl : r_1 = 0 := hw_5
    refine lv_if_ne (tgt := 9) hx hb d_O_command_4 (by decide) (fun h9 => absurd h9 (by decide +kernel)) (fun _ => ?_)
    refine lv_iconst (v := 0) hx hb d_O_command_7 (by decide) ?_
    have hP9 := hP.sub (ws' := [(h0, .inr (7, [.int i_thrown, .int i_down, .int i_lasts, v_buffer, .int i_size, .int i_documents, v_gone, v_first, v_many, v_lengths, v_authors, v_sums, .ref hrow, .ref hmade, .int (nI k), .ref hbase, .int (nI kb), v_text, .int i_textSize, .int i_textSteps, v_other, .int i_otherSize, v_piece, .int i_pieceSize, .int (nI (a2_2)), .int (nI en), .int vv_3])), (hmade, .inl (cM, 256, .inl (f))), (hbase, .inl (cB, 256, .inl (fb))), (hrow, .inl (cW, 16384, .inl (fr)))]) [2, 0, 1, 3] rfl
    have hD9 := hD.sub (ws' := [(h0, .inr (7, [.int i_thrown, .int i_down, .int i_lasts, v_buffer, .int i_size, .int i_documents, v_gone, v_first, v_many, v_lengths, v_authors, v_sums, .ref hrow, .ref hmade, .int (nI k), .ref hbase, .int (nI kb), v_text, .int i_textSize, .int i_textSteps, v_other, .int i_otherSize, v_piece, .int i_pieceSize, .int (nI (a2_2)), .int (nI en), .int vv_3])), (hmade, .inl (cM, 256, .inl (f))), (hbase, .inl (cB, 256, .inl (fb))), (hrow, .inl (cW, 16384, .inl (fr)))]) [2, 0, 1, 3] (by decide) rfl
    have hK9 := hK.sub (tys' := [(cM, .byte), (cB, .byte), (cW, .byte)]) [0, 1, 2] rfl
    exact W.zret (v := 0) (ty := .boolean) hx hb hr rfl (fun t ht hW => ⟨⟨0, (), rfl, (by rw [(show cmd S Bs T a = none from by first | exact cmd_0 hq9 | exact cmd_1 hq9 (Or.inl hz9) | exact cmd_1 hq9 (Or.inr (by rw [htt.1]; omega)) | (by_cases hb8 : hv / 2 = 0 ∨ 256 < T.length + hv / 2; exact cmd_1 hq9 hb8; first | exact cmd_3 hq9 hb8 hod hq8 | (rw [cmd_4 hq9 hb8 hod hq8]; exact if_pos (by rw [htb.1]; omega)) | (rw [cmd_2 hq9 hb8 hev]; exact if_pos (by omega))))]; rfl), (a2_2 - b0), (a2_2), k, f, T, vv_3, ⟨⟨htt, hk, (by omega), (by omega)⟩, cmR_n (show cmd S Bs T a = none from by first | exact cmd_0 hq9 | exact cmd_1 hq9 (Or.inl hz9) | exact cmd_1 hq9 (Or.inr (by rw [htt.1]; omega)) | (by_cases hb8 : hv / 2 = 0 ∨ 256 < T.length + hv / 2; exact cmd_1 hq9 hb8; first | exact cmd_3 hq9 hb8 hod hq8 | (rw [cmd_4 hq9 hb8 hod hq8]; exact if_pos (by rw [htb.1]; omega)) | (rw [cmd_2 hq9 hb8 hev]; exact if_pos (by omega))))⟩, by rw [ht]; exact hP9, va_K.moved hW.alike hK9, hD9⟩, hS.F ht⟩) hS.2.2 d_O_command_8
  · rw [hq9] at hw_5; obtain rfl : r_1 = 1 := hw_5; obtain rfl : vv_3 = nI hv := hu_4_1 hv hq9; have hd_hv := (rd_some hq9).1
    refine lv_if_ne (tgt := 9) hx hb d_O_command_4 (by decide) (fun _ => ?_) (fun h9 => absurd h9 (by decide +kernel))
    refine lv_aload_n hx hb d_O_command_9 rfl (lv_at hl 0 rfl) ?_
    refine va_get (D := (dC, dI)) (ci := 7) (v := .int (nI hv)) (C := R_O) (T := F_O) (N := 27) hx hb hw0 in_O hown hK hP 2 rfl rfl 26 (by decide) (hw0 (.fieldLink R_O 100 "TextKeeperModel" "value" "I") (List.mem_of_getElem? (i := 179) rfl)) (fun _ h9 => h9) rfl d_O_command_10 ?_
    refine lv_iconst (v := 2) hx hb d_O_command_13 (by decide) ?_
    refine lv_idiv hx hb d_O_command_14 (by decide +kernel) ?_
    refine lv_topi (fun x_6 ex_6 => ?_)
    obtain rfl : x_6 = (nI (hv / 2)) := by rw [ex_6]; exact (show nI hv / nI 2 = nI (hv / 2) from pk_div (by omega) (by decide) (by decide))
    clear ex_6
    refine lv_istore_n (lv' := [(1, .int (nI (hv / 2))), (0, .ref h0)]) hx hb d_O_command_15 rfl hl (by decide) rfl (fun ls hl => ?_)
    refine lv_aload_n hx hb d_O_command_16 rfl (lv_at hl 1 rfl) ?_
    refine va_get (D := (dC, dI)) (ci := 7) (v := .int (nI hv)) (C := R_O) (T := F_O) (N := 27) hx hb hw0 in_O hown hK hP 2 rfl rfl 26 (by decide) (hw0 (.fieldLink R_O 100 "TextKeeperModel" "value" "I") (List.mem_of_getElem? (i := 179) rfl)) (fun _ h9 => h9) rfl d_O_command_17 ?_
    refine lv_iconst (v := 2) hx hb d_O_command_20 (by decide) ?_
    refine lv_irem hx hb d_O_command_21 (by decide +kernel) ?_
    refine lv_topi (fun x_7 ex_7 => ?_)
    obtain rfl : x_7 = (nI (hv % 2)) := by rw [ex_7]; exact (show nI hv - nI hv / nI 2 * nI 2 = nI (hv % 2) from pk_rem (by omega) (by decide) (by decide))
    clear ex_7
    refine lv_iconst (v := 1) hx hb d_O_command_22 (by decide) ?_
    refine lv_icmp_ne (tgt := 30) hx hb d_O_command_23 (by decide) (fun c_8 => ?_) (fun c_8 => ?_)
    · have hev : hv % 2 = 0 := (by have h8 : ¬ hv % 2 = 1 := (fun z => c_8 (by rw [z]; rfl)); omega)
      refine lv_iconst (v := 0) hx hb d_O_command_30 (by decide) ?_
      refine lv_istore_n (lv' := [(2, .int 0), (1, .int (nI (hv / 2))), (0, .ref h0)]) hx hb d_O_command_31 rfl hl (by decide) rfl (fun ls hl => ?_)
      refine lv_iload_n hx hb d_O_command_32 rfl (lv_at hl 0 rfl) ?_
      refine lv_if_eq (tgt := 45) hx hb d_O_command_33 (by decide) (fun _ => ?_) (fun h9 => absurd h9 (by decide +kernel))
      refine lv_iload_n hx hb d_O_command_45 rfl (lv_at hl 0 rfl) ?_
      refine lv_if_eq (tgt := 56) hx hb d_O_command_46 (by decide) (fun _ => ?_) (fun h9 => absurd h9 (by decide +kernel))
      refine lv_aload_n hx hb d_O_command_56 rfl (lv_at hl 2 rfl) ?_
      refine va_get (D := (dC, dI)) (ci := 7) (v := .int (nI a2_2)) (C := R_O) (T := F_O) (N := 27) hx hb hw0 in_O hown hK hP 2 rfl rfl 24 (by decide) (hw0 (.fieldLink R_O 103 "TextKeeperModel" "at" "I") (List.mem_of_getElem? (i := 180) rfl)) (fun _ h9 => h9) rfl d_O_command_57 ?_
      refine lv_istore_n (lv' := [(3, .int (nI a2_2)), (2, .int 0), (1, .int (nI (hv / 2))), (0, .ref h0)]) hx hb d_O_command_60 rfl hl (by decide) rfl (fun ls hl => ?_)
      refine lv_iload_n hx hb d_O_command_61 rfl (lv_at hl 2 rfl) ?_
      refine lv_if_eq (tgt := 98) hx hb d_O_command_62 (by decide) (fun c_9 => ?_) (fun c_9 => ?_)
      · have hz9 : hv / 2 = 0 := (by rcases Nat.eq_zero_or_pos (hv / 2) with z | z; exact z; exact absurd c_9 (nI_ne0 z (by omega)))
        refine lv_iconst (v := 0) hx hb d_O_command_98 (by decide) ?_
        have hP9 := hP.sub (ws' := [(h0, .inr (7, [.int i_thrown, .int i_down, .int i_lasts, v_buffer, .int i_size, .int i_documents, v_gone, v_first, v_many, v_lengths, v_authors, v_sums, .ref hrow, .ref hmade, .int (nI k), .ref hbase, .int (nI kb), v_text, .int i_textSize, .int i_textSteps, v_other, .int i_otherSize, v_piece, .int i_pieceSize, .int (nI (a2_2)), .int (nI en), .int (nI hv)])), (hmade, .inl (cM, 256, .inl (f))), (hbase, .inl (cB, 256, .inl (fb))), (hrow, .inl (cW, 16384, .inl (fr)))]) [2, 0, 1, 3] rfl
        have hD9 := hD.sub (ws' := [(h0, .inr (7, [.int i_thrown, .int i_down, .int i_lasts, v_buffer, .int i_size, .int i_documents, v_gone, v_first, v_many, v_lengths, v_authors, v_sums, .ref hrow, .ref hmade, .int (nI k), .ref hbase, .int (nI kb), v_text, .int i_textSize, .int i_textSteps, v_other, .int i_otherSize, v_piece, .int i_pieceSize, .int (nI (a2_2)), .int (nI en), .int (nI hv)])), (hmade, .inl (cM, 256, .inl (f))), (hbase, .inl (cB, 256, .inl (fb))), (hrow, .inl (cW, 16384, .inl (fr)))]) [2, 0, 1, 3] (by decide) rfl
        have hK9 := hK.sub (tys' := [(cM, .byte), (cB, .byte), (cW, .byte)]) [0, 1, 2] rfl
        exact W.zret (v := 0) (ty := .boolean) hx hb hr rfl (fun t ht hW => ⟨⟨0, (), rfl, (by rw [(show cmd S Bs T a = none from by first | exact cmd_0 hq9 | exact cmd_1 hq9 (Or.inl hz9) | exact cmd_1 hq9 (Or.inr (by rw [htt.1]; omega)) | (by_cases hb8 : hv / 2 = 0 ∨ 256 < T.length + hv / 2; exact cmd_1 hq9 hb8; first | exact cmd_3 hq9 hb8 hod hq8 | (rw [cmd_4 hq9 hb8 hod hq8]; exact if_pos (by rw [htb.1]; omega)) | (rw [cmd_2 hq9 hb8 hev]; exact if_pos (by omega))))]; rfl), (a2_2 - b0), (a2_2), k, f, T, (nI hv), ⟨⟨htt, hk, (by omega), (by omega)⟩, cmR_n (show cmd S Bs T a = none from by first | exact cmd_0 hq9 | exact cmd_1 hq9 (Or.inl hz9) | exact cmd_1 hq9 (Or.inr (by rw [htt.1]; omega)) | (by_cases hb8 : hv / 2 = 0 ∨ 256 < T.length + hv / 2; exact cmd_1 hq9 hb8; first | exact cmd_3 hq9 hb8 hod hq8 | (rw [cmd_4 hq9 hb8 hod hq8]; exact if_pos (by rw [htb.1]; omega)) | (rw [cmd_2 hq9 hb8 hev]; exact if_pos (by omega))))⟩, by rw [ht]; exact hP9, va_K.moved hW.alike hK9, hD9⟩, hS.F ht⟩) hS.2.2 d_O_command_99
      · have hz8 : ¬ hv / 2 = 0 := (fun z => c_9 (by rw [z]; rfl))
        refine lv_aload_n hx hb d_O_command_65 rfl (lv_at hl 3 rfl) ?_
        refine va_get (D := (dC, dI)) (ci := 7) (v := .int (nI k)) (C := R_O) (T := F_O) (N := 27) hx hb hw0 in_O hown hK hP 2 rfl rfl 14 (by decide) (hw0 (.fieldLink R_O 113 "TextKeeperModel" "madeSize" "I") (List.mem_of_getElem? (i := 164) rfl)) (fun _ h9 => h9) rfl d_O_command_66 ?_
        refine lv_iload_n hx hb d_O_command_69 rfl (lv_at hl 2 rfl) ?_
        refine lv_iadd hx hb d_O_command_70 ?_
        refine lv_topi (fun x_10 ex_10 => ?_)
        obtain rfl : x_10 = (nI (k + hv / 2)) := by rw [ex_10]; exact nI_add _ _
        clear ex_10
        refine lv_sipush (v := 256) hx hb d_O_command_71 (by decide +kernel) ?_
        refine lv_icmp_gt (tgt := 98) hx hb d_O_command_74 (by decide) (fun c_11 => ?_) (fun c_11 => ?_)
        · have hg9 : 256 < k + hv / 2 := (nI_ltI (by decide) (by omega)).mp c_11
          refine lv_iconst (v := 0) hx hb d_O_command_98 (by decide) ?_
          have hP9 := hP.sub (ws' := [(h0, .inr (7, [.int i_thrown, .int i_down, .int i_lasts, v_buffer, .int i_size, .int i_documents, v_gone, v_first, v_many, v_lengths, v_authors, v_sums, .ref hrow, .ref hmade, .int (nI k), .ref hbase, .int (nI kb), v_text, .int i_textSize, .int i_textSteps, v_other, .int i_otherSize, v_piece, .int i_pieceSize, .int (nI (a2_2)), .int (nI en), .int (nI hv)])), (hmade, .inl (cM, 256, .inl (f))), (hbase, .inl (cB, 256, .inl (fb))), (hrow, .inl (cW, 16384, .inl (fr)))]) [2, 0, 1, 3] rfl
          have hD9 := hD.sub (ws' := [(h0, .inr (7, [.int i_thrown, .int i_down, .int i_lasts, v_buffer, .int i_size, .int i_documents, v_gone, v_first, v_many, v_lengths, v_authors, v_sums, .ref hrow, .ref hmade, .int (nI k), .ref hbase, .int (nI kb), v_text, .int i_textSize, .int i_textSteps, v_other, .int i_otherSize, v_piece, .int i_pieceSize, .int (nI (a2_2)), .int (nI en), .int (nI hv)])), (hmade, .inl (cM, 256, .inl (f))), (hbase, .inl (cB, 256, .inl (fb))), (hrow, .inl (cW, 16384, .inl (fr)))]) [2, 0, 1, 3] (by decide) rfl
          have hK9 := hK.sub (tys' := [(cM, .byte), (cB, .byte), (cW, .byte)]) [0, 1, 2] rfl
          exact W.zret (v := 0) (ty := .boolean) hx hb hr rfl (fun t ht hW => ⟨⟨0, (), rfl, (by rw [(show cmd S Bs T a = none from by first | exact cmd_0 hq9 | exact cmd_1 hq9 (Or.inl hz9) | exact cmd_1 hq9 (Or.inr (by rw [htt.1]; omega)) | (by_cases hb8 : hv / 2 = 0 ∨ 256 < T.length + hv / 2; exact cmd_1 hq9 hb8; first | exact cmd_3 hq9 hb8 hod hq8 | (rw [cmd_4 hq9 hb8 hod hq8]; exact if_pos (by rw [htb.1]; omega)) | (rw [cmd_2 hq9 hb8 hev]; exact if_pos (by omega))))]; rfl), (a2_2 - b0), (a2_2), k, f, T, (nI hv), ⟨⟨htt, hk, (by omega), (by omega)⟩, cmR_n (show cmd S Bs T a = none from by first | exact cmd_0 hq9 | exact cmd_1 hq9 (Or.inl hz9) | exact cmd_1 hq9 (Or.inr (by rw [htt.1]; omega)) | (by_cases hb8 : hv / 2 = 0 ∨ 256 < T.length + hv / 2; exact cmd_1 hq9 hb8; first | exact cmd_3 hq9 hb8 hod hq8 | (rw [cmd_4 hq9 hb8 hod hq8]; exact if_pos (by rw [htb.1]; omega)) | (rw [cmd_2 hq9 hb8 hev]; exact if_pos (by omega))))⟩, by rw [ht]; exact hP9, va_K.moved hW.alike hK9, hD9⟩, hS.F ht⟩) hS.2.2 d_O_command_99
        · have hg8 : k + hv / 2 ≤ 256 := (by rcases Nat.lt_or_ge 256 (k + hv / 2) with z | z; exact absurd (nI_lt z (by omega)) c_11; exact z)
          refine lv_iload_n hx hb d_O_command_77 rfl (lv_at hl 0 rfl) ?_
          refine lv_iload_n hx hb d_O_command_78 rfl (lv_at hl 2 rfl) ?_
          refine lv_iadd hx hb d_O_command_79 ?_
          refine lv_topi (fun x_12 ex_12 => ?_)
          obtain rfl : x_12 = (nI (a2_2 + hv / 2)) := by rw [ex_12]; exact nI_add _ _
          clear ex_12
          refine lv_iload_n hx hb d_O_command_80 rfl (lv_at hl 1 rfl) ?_
          refine lv_if_eq (tgt := 91) hx hb d_O_command_81 (by decide) (fun _ => ?_) (fun h9 => absurd h9 (by decide +kernel))
          refine lv_aload_n hx hb d_O_command_91 rfl (lv_at hl 3 rfl) ?_
          refine va_get (D := (dC, dI)) (ci := 7) (v := .int (nI en)) (C := R_O) (T := F_O) (N := 27) hx hb hw0 in_O hown hK hP 2 rfl rfl 25 (by decide) (hw0 (.fieldLink R_O 106 "TextKeeperModel" "end" "I") (List.mem_of_getElem? (i := 181) rfl)) (fun _ h9 => h9) rfl d_O_command_92 ?_
          refine lv_icmp_le (tgt := 100) hx hb d_O_command_95 (by decide) (fun c_13 => ?_) (fun c_13 => ?_)
          · have hm8 := (nI_leI (by omega) (by omega)).mp c_13
            refine lv_iconst (v := 0) hx hb d_O_command_100 (by decide) ?_
            refine lv_istore (lv' := [(4, .int 0), (3, .int (nI a2_2)), (2, .int 0), (1, .int (nI (hv / 2))), (0, .ref h0)]) hx hb d_O_command_101 hl (by decide) rfl (fun ls hl => ?_)
            refine lo_cmi h0 i_thrown i_down i_lasts v_buffer i_size i_documents v_gone v_first v_many v_lengths v_authors v_sums v_text i_textSize i_textSteps v_other i_otherSize v_piece i_pieceSize (nI hv) hmade cM k hbase cB kb fb Bs hrow cW fr S a2_2 en b0 T (rd S a).2 (hv / 2) a2_2 htb hsx hk hkb hen (by omega) (by omega) (by omega) hx hb hml hown hw0 hN (hK.sub (tys' := [(cM, .byte), (cB, .byte), (cW, .byte)]) [0, 1, 2] rfl) hA (fun f9 hf9 H locs hP hD hS ls hl => ?_) (hv / 2 + 1) 0 (by omega) (by omega) f (by rw [List.take_zero, List.append_nil]; exact htt) _ _ (hP.sub (ws' := [(h0, .inr (7, [.int i_thrown, .int i_down, .int i_lasts, v_buffer, .int i_size, .int i_documents, v_gone, v_first, v_many, v_lengths, v_authors, v_sums, .ref hrow, .ref hmade, .int (nI (k + 0)), .ref hbase, .int (nI kb), v_text, .int i_textSize, .int i_textSteps, v_other, .int i_otherSize, v_piece, .int i_pieceSize, .int (nI a2_2), .int (nI en), .int (nI hv)])), (hmade, .inl (cM, 256, .inl (f))), (hbase, .inl (cB, 256, .inl (fb))), (hrow, .inl (cW, 16384, .inl (fr)))]) [2, 0, 1, 3] rfl) (hD.sub (ws' := [(h0, .inr (7, [.int i_thrown, .int i_down, .int i_lasts, v_buffer, .int i_size, .int i_documents, v_gone, v_first, v_many, v_lengths, v_authors, v_sums, .ref hrow, .ref hmade, .int (nI (k + 0)), .ref hbase, .int (nI kb), v_text, .int i_textSize, .int i_textSteps, v_other, .int i_otherSize, v_piece, .int i_pieceSize, .int (nI a2_2), .int (nI en), .int (nI hv)])), (hmade, .inl (cM, 256, .inl (f))), (hbase, .inl (cB, 256, .inl (fb))), (hrow, .inl (cW, 16384, .inl (fr)))]) [2, 0, 1, 3] (by decide) rfl) hS ls (lv_sub hl [0, 4, 3, 2, 1] rfl)
            replace hK := hK.sub (tys' := [(cM, .byte), (cB, .byte), (cW, .byte)]) [0, 1, 2] rfl
            refine lv_aload_n hx hb d_O_command_159 rfl (lv_at hl 1 rfl) ?_
            refine lv_iload_n hx hb d_O_command_160 rfl (lv_at hl 3 rfl) ?_
            refine lv_if_eq (tgt := 171) hx hb d_O_command_161 (by decide) (fun _ => ?_) (fun h9 => absurd h9 (by decide +kernel))
            refine lv_aload_n hx hb d_O_command_171 rfl (lv_at hl 1 rfl) ?_
            refine va_get (D := (dC, dI)) (ci := 7) (v := .int (nI a2_2)) (C := R_O) (T := F_O) (N := 27) hx hb hw0 in_O hown hK hP 0 rfl rfl 24 (by decide) (hw0 (.fieldLink R_O 103 "TextKeeperModel" "at" "I") (List.mem_of_getElem? (i := 180) rfl)) (fun _ h9 => h9) rfl d_O_command_172 ?_
            refine lv_iload_n hx hb d_O_command_175 rfl (lv_at hl 2 rfl) ?_
            refine lv_iadd hx hb d_O_command_176 ?_
            refine lv_topi (fun x_14 ex_14 => ?_)
            obtain rfl : x_14 = (nI (a2_2 + hv / 2)) := by rw [ex_14]; exact nI_add _ _
            clear ex_14
            refine va_put (D := (dC, dI)) (ci := 7) (v := .int (nI (a2_2 + hv / 2))) (ty := .int) (C := R_O) (T := F_O) (N := 27) hx hb hw0 in_O ft_O tk_O nk_O hown hK hP hD hS 0 rfl rfl 24 (by decide) (hw0 (.fieldLink R_O 103 "TextKeeperModel" "at" "I") (List.mem_of_getElem? (i := 180) rfl)) (fun _ h9 => h9) rfl (by decide +kernel) rfl rfl (Nat.le_of_ble_eq_true rfl) d_O_command_177 (fun H locs hP hD hS => ?_)
            replace hP : va_P (dC, dI) vwCl [(h0, .inr (7, [.int i_thrown, .int i_down, .int i_lasts, v_buffer, .int i_size, .int i_documents, v_gone, v_first, v_many, v_lengths, v_authors, v_sums, .ref hrow, .ref hmade, .int (nI (k + hv / 2)), .ref hbase, .int (nI kb), v_text, .int i_textSize, .int i_textSteps, v_other, .int i_otherSize, v_piece, .int i_pieceSize, .int (nI (a2_2 + hv / 2)), .int (nI en), .int (nI hv)])), (hmade, .inl (cM, 256, .inl (f9))), (hbase, .inl (cB, 256, .inl (fb))), (hrow, .inl (cW, 16384, .inl (fr)))] H := hP
            replace hD : va_D A [(h0, .inr (7, [.int i_thrown, .int i_down, .int i_lasts, v_buffer, .int i_size, .int i_documents, v_gone, v_first, v_many, v_lengths, v_authors, v_sums, .ref hrow, .ref hmade, .int (nI (k + hv / 2)), .ref hbase, .int (nI kb), v_text, .int i_textSize, .int i_textSteps, v_other, .int i_otherSize, v_piece, .int i_pieceSize, .int (nI (a2_2 + hv / 2)), .int (nI en), .int (nI hv)])), (hmade, .inl (cM, 256, .inl (f9))), (hbase, .inl (cB, 256, .inl (fb))), (hrow, .inl (cW, 16384, .inl (fr)))] := hD
            refine lv_iconst (v := 1) hx hb d_O_command_180 (by decide) ?_
            have hP9 := hP.sub (ws' := [(h0, .inr (7, [.int i_thrown, .int i_down, .int i_lasts, v_buffer, .int i_size, .int i_documents, v_gone, v_first, v_many, v_lengths, v_authors, v_sums, .ref hrow, .ref hmade, .int (nI (k + hv / 2)), .ref hbase, .int (nI kb), v_text, .int i_textSize, .int i_textSteps, v_other, .int i_otherSize, v_piece, .int i_pieceSize, .int (nI (a2_2 + hv / 2)), .int (nI en), .int (nI hv)])), (hmade, .inl (cM, 256, .inl (f9))), (hbase, .inl (cB, 256, .inl (fb))), (hrow, .inl (cW, 16384, .inl (fr)))]) [0, 1, 2, 3] rfl
            have hD9 := hD.sub (ws' := [(h0, .inr (7, [.int i_thrown, .int i_down, .int i_lasts, v_buffer, .int i_size, .int i_documents, v_gone, v_first, v_many, v_lengths, v_authors, v_sums, .ref hrow, .ref hmade, .int (nI (k + hv / 2)), .ref hbase, .int (nI kb), v_text, .int i_textSize, .int i_textSteps, v_other, .int i_otherSize, v_piece, .int i_pieceSize, .int (nI (a2_2 + hv / 2)), .int (nI en), .int (nI hv)])), (hmade, .inl (cM, 256, .inl (f9))), (hbase, .inl (cB, 256, .inl (fb))), (hrow, .inl (cW, 16384, .inl (fr)))]) [0, 1, 2, 3] (by decide) rfl
            have hK9 := hK.sub (tys' := [(cM, .byte), (cB, .byte), (cW, .byte)]) [0, 1, 2] rfl
            exact W.zret (v := 1) (ty := .boolean) hx hb hr rfl (fun t ht hW => ⟨⟨1, (), rfl, (by rw [(show cmd S Bs T a = some _ from by rw [cmd_2 hq9 (by rw [htt.1]; omega) hev, if_neg (by omega)])]; rfl), ((rd S a).2 + hv / 2), (a2_2 + hv / 2), (k + hv / 2), f9, (T ++ (S.drop (rd S a).2).take (hv / 2)), (nI hv), ⟨⟨hf9, (by omega), (by omega), (by omega)⟩, cmR_s (show cmd S Bs T a = some _ from by rw [cmd_2 hq9 (by rw [htt.1]; omega) hev, if_neg (by omega)])⟩, by rw [ht]; exact hP9, va_K.moved hW.alike hK9, hD9⟩, hS.F ht⟩) hS.2.2 d_O_command_181
          · have hm9 := mt (nI_leI (by omega) (by omega)).mpr c_13
            refine lv_iconst (v := 0) hx hb d_O_command_98 (by decide) ?_
            have hP9 := hP.sub (ws' := [(h0, .inr (7, [.int i_thrown, .int i_down, .int i_lasts, v_buffer, .int i_size, .int i_documents, v_gone, v_first, v_many, v_lengths, v_authors, v_sums, .ref hrow, .ref hmade, .int (nI k), .ref hbase, .int (nI kb), v_text, .int i_textSize, .int i_textSteps, v_other, .int i_otherSize, v_piece, .int i_pieceSize, .int (nI (a2_2)), .int (nI en), .int (nI hv)])), (hmade, .inl (cM, 256, .inl (f))), (hbase, .inl (cB, 256, .inl (fb))), (hrow, .inl (cW, 16384, .inl (fr)))]) [2, 0, 1, 3] rfl
            have hD9 := hD.sub (ws' := [(h0, .inr (7, [.int i_thrown, .int i_down, .int i_lasts, v_buffer, .int i_size, .int i_documents, v_gone, v_first, v_many, v_lengths, v_authors, v_sums, .ref hrow, .ref hmade, .int (nI k), .ref hbase, .int (nI kb), v_text, .int i_textSize, .int i_textSteps, v_other, .int i_otherSize, v_piece, .int i_pieceSize, .int (nI (a2_2)), .int (nI en), .int (nI hv)])), (hmade, .inl (cM, 256, .inl (f))), (hbase, .inl (cB, 256, .inl (fb))), (hrow, .inl (cW, 16384, .inl (fr)))]) [2, 0, 1, 3] (by decide) rfl
            have hK9 := hK.sub (tys' := [(cM, .byte), (cB, .byte), (cW, .byte)]) [0, 1, 2] rfl
            exact W.zret (v := 0) (ty := .boolean) hx hb hr rfl (fun t ht hW => ⟨⟨0, (), rfl, (by rw [(show cmd S Bs T a = none from by first | exact cmd_0 hq9 | exact cmd_1 hq9 (Or.inl hz9) | exact cmd_1 hq9 (Or.inr (by rw [htt.1]; omega)) | (by_cases hb8 : hv / 2 = 0 ∨ 256 < T.length + hv / 2; exact cmd_1 hq9 hb8; first | exact cmd_3 hq9 hb8 hod hq8 | (rw [cmd_4 hq9 hb8 hod hq8]; exact if_pos (by rw [htb.1]; omega)) | (rw [cmd_2 hq9 hb8 hev]; exact if_pos (by omega))))]; rfl), (a2_2 - b0), (a2_2), k, f, T, (nI hv), ⟨⟨htt, hk, (by omega), (by omega)⟩, cmR_n (show cmd S Bs T a = none from by first | exact cmd_0 hq9 | exact cmd_1 hq9 (Or.inl hz9) | exact cmd_1 hq9 (Or.inr (by rw [htt.1]; omega)) | (by_cases hb8 : hv / 2 = 0 ∨ 256 < T.length + hv / 2; exact cmd_1 hq9 hb8; first | exact cmd_3 hq9 hb8 hod hq8 | (rw [cmd_4 hq9 hb8 hod hq8]; exact if_pos (by rw [htb.1]; omega)) | (rw [cmd_2 hq9 hb8 hev]; exact if_pos (by omega))))⟩, by rw [ht]; exact hP9, va_K.moved hW.alike hK9, hD9⟩, hS.F ht⟩) hS.2.2 d_O_command_99
    · have hod : ¬ hv % 2 = 0 := (by have h8 := (nI_eq (a := hv % 2) (b := 1) (by omega) (by decide)).mp c_8; omega)
      refine lv_iconst (v := 1) hx hb d_O_command_26 (by decide) ?_
      refine lv_goto (tgt := 31) hx hb d_O_command_27 (by decide) ?_
      refine lv_istore_n (lv' := [(2, .int 1), (1, .int (nI (hv / 2))), (0, .ref h0)]) hx hb d_O_command_31 rfl hl (by decide) rfl (fun ls hl => ?_)
      refine lv_iload_n hx hb d_O_command_32 rfl (lv_at hl 0 rfl) ?_
      refine lv_if_eq (tgt := 45) hx hb d_O_command_33 (by decide) (fun h9 => absurd h9 (by decide +kernel)) (fun _ => ?_)
      refine lv_aload_n hx hb d_O_command_36 rfl (lv_at hl 2 rfl) ?_
      have hPc := hP.sub (ws' := [(h0, .inr (7, [.int i_thrown, .int i_down, .int i_lasts, v_buffer, .int i_size, .int i_documents, v_gone, v_first, v_many, v_lengths, v_authors, v_sums, .ref hrow, .ref hmade, .int (nI k), .ref hbase, .int (nI kb), v_text, .int i_textSize, .int i_textSteps, v_other, .int i_otherSize, v_piece, .int i_pieceSize, .int (nI a2_2), .int (nI en), .int (nI hv)])), (hrow, .inl (cW, 16384, .inl (((fr)))))]) [2, 3] rfl
      have hKc := hK.sub (tys' := [(cW, .byte)]) [2] rfl
      have hDc := hD.sub (ws' := [(h0, .inr (7, [.int i_thrown, .int i_down, .int i_lasts, v_buffer, .int i_size, .int i_documents, v_gone, v_first, v_many, v_lengths, v_authors, v_sums, .ref hrow, .ref hmade, .int (nI k), .ref hbase, .int (nI kb), v_text, .int i_textSize, .int i_textSteps, v_other, .int i_otherSize, v_piece, .int i_pieceSize, .int (nI a2_2), .int (nI en), .int (nI hv)])), (hrow, .inl (cW, 16384, .inl (((fr)))))]) [2, 3] (by decide) rfl
      have hFc := va_free (wc := [(h0, .inr (7, [.int i_thrown, .int i_down, .int i_lasts, v_buffer, .int i_size, .int i_documents, v_gone, v_first, v_many, v_lengths, v_authors, v_sums, .ref hrow, .ref hmade, .int (nI k), .ref hbase, .int (nI kb), v_text, .int i_textSize, .int i_textSteps, v_other, .int i_otherSize, v_piece, .int i_pieceSize, .int (nI a2_2), .int (nI en), .int (nI hv)])), (hrow, .inl (cW, 16384, .inl (((fr)))))]) hD hS hA [2, 3] rfl
      refine va_calli (va_runV (As := []) (rest := []) ⟨hx, hb, hml, hown, hw0⟩ (o_number l dC dI H.size h0 i_thrown i_down i_lasts v_buffer i_size i_documents v_gone v_first v_many v_lengths v_authors v_sums (.ref hmade) (nI k) (.ref hbase) (nI kb) v_text i_textSize i_textSteps v_other i_otherSize v_piece i_pieceSize (nI hv) hrow cW ((fr)) _ a2_2 en _ _ (by first | assumption | decide | omega) (by first | assumption | decide | omega) (by first | assumption | decide | omega) (by first | assumption | decide | omega)) (cwV 0 hw0 (gd_V 202 203 204 161 205 rfl rfl rfl rfl rfl) rfl rfl rfl (by decide +kernel) ⟨by decide +kernel, by decide +kernel⟩) (prV_E hPc hKc hDc hN (va_recv hKc hPc (ci := 7) (q0 := 0) rfl rfl)) rfl rfl hl.1 rfl (lv_room (Nat.le_of_ble_eq_true rfl)) d_O_command_37 ⟨by decide +kernel, by decide +kernel⟩) hS (fun q _ h => hFc q h) hFc (fun r_15 u t H1 locs ht hvm hw hB hz1 hk1 hS => ?_)
      obtain ⟨a2_16, vv_17, ⟨hu_18_0, hu_18_1⟩, hP1, hK1, hD1⟩ := hB
      rw [ht] at hP1
      have hK1 := va_K.moved hvm.symm hK1
      try dsimp only at hw
      obtain ⟨hP, hD⟩ := va_join (wr := [(hmade, .inl (cM, 256, .inl (f))), (hbase, .inl (cB, 256, .inl (fb)))]) (w1 := [(h0, .inr (7, [.int i_thrown, .int i_down, .int i_lasts, v_buffer, .int i_size, .int i_documents, v_gone, v_first, v_many, v_lengths, v_authors, v_sums, .ref hrow, .ref hmade, .int (nI k), .ref hbase, .int (nI kb), v_text, .int i_textSize, .int i_textSteps, v_other, .int i_otherSize, v_piece, .int i_pieceSize, .int (nI a2_16), .int (nI en), .int vv_17])), (hrow, .inl (cW, 16384, .inl (((fr)))))]) hP hD [2, 3] [0, 1] rfl rfl (by decide) (by decide) hk1 hFc hP1 hD1
      generalize H1 = H at hP hS ⊢
      replace hP : va_P (dC, dI) vwCl [(hmade, .inl (cM, 256, .inl (f))), (hbase, .inl (cB, 256, .inl (fb))), (h0, .inr (7, [.int i_thrown, .int i_down, .int i_lasts, v_buffer, .int i_size, .int i_documents, v_gone, v_first, v_many, v_lengths, v_authors, v_sums, .ref hrow, .ref hmade, .int (nI k), .ref hbase, .int (nI kb), v_text, .int i_textSize, .int i_textSteps, v_other, .int i_otherSize, v_piece, .int i_pieceSize, .int (nI a2_16), .int (nI en), .int vv_17])), (hrow, .inl (cW, 16384, .inl (((fr)))))] H := hP
      replace hD : va_D A [(hmade, .inl (cM, 256, .inl (f))), (hbase, .inl (cB, 256, .inl (fb))), (h0, .inr (7, [.int i_thrown, .int i_down, .int i_lasts, v_buffer, .int i_size, .int i_documents, v_gone, v_first, v_many, v_lengths, v_authors, v_sums, .ref hrow, .ref hmade, .int (nI k), .ref hbase, .int (nI kb), v_text, .int i_textSize, .int i_textSteps, v_other, .int i_otherSize, v_piece, .int i_pieceSize, .int (nI a2_16), .int (nI en), .int vv_17])), (hrow, .inl (cW, 16384, .inl (((fr)))))] := hD
      replace hK : va_K (dC, dI) vwCl [(cM, .byte), (cB, .byte), (cW, .byte)] s := hK
      have hw_19 := hw
      have ha3 : (rd S (rd S a).2).2 ≤ S.length := rd_le ha2
      rcases hq8 : (rd S (rd S a).2).1 with _ | pd
      · rw [hq8] at hw_19; obtain rfl : r_15 = 0 := hw_19
        refine lv_if_ne (tgt := 45) hx hb d_O_command_40 (by decide) (fun h9 => absurd h9 (by decide +kernel)) (fun _ => ?_)
        refine lv_iconst (v := 0) hx hb d_O_command_43 (by decide) ?_
        have hP9 := hP.sub (ws' := [(h0, .inr (7, [.int i_thrown, .int i_down, .int i_lasts, v_buffer, .int i_size, .int i_documents, v_gone, v_first, v_many, v_lengths, v_authors, v_sums, .ref hrow, .ref hmade, .int (nI k), .ref hbase, .int (nI kb), v_text, .int i_textSize, .int i_textSteps, v_other, .int i_otherSize, v_piece, .int i_pieceSize, .int (nI (a2_16)), .int (nI en), .int vv_17])), (hmade, .inl (cM, 256, .inl (f))), (hbase, .inl (cB, 256, .inl (fb))), (hrow, .inl (cW, 16384, .inl (fr)))]) [2, 0, 1, 3] rfl
        have hD9 := hD.sub (ws' := [(h0, .inr (7, [.int i_thrown, .int i_down, .int i_lasts, v_buffer, .int i_size, .int i_documents, v_gone, v_first, v_many, v_lengths, v_authors, v_sums, .ref hrow, .ref hmade, .int (nI k), .ref hbase, .int (nI kb), v_text, .int i_textSize, .int i_textSteps, v_other, .int i_otherSize, v_piece, .int i_pieceSize, .int (nI (a2_16)), .int (nI en), .int vv_17])), (hmade, .inl (cM, 256, .inl (f))), (hbase, .inl (cB, 256, .inl (fb))), (hrow, .inl (cW, 16384, .inl (fr)))]) [2, 0, 1, 3] (by decide) rfl
        have hK9 := hK.sub (tys' := [(cM, .byte), (cB, .byte), (cW, .byte)]) [0, 1, 2] rfl
        exact W.zret (v := 0) (ty := .boolean) hx hb hr rfl (fun t ht hW => ⟨⟨0, (), rfl, (by rw [(show cmd S Bs T a = none from by first | exact cmd_0 hq9 | exact cmd_1 hq9 (Or.inl hz9) | exact cmd_1 hq9 (Or.inr (by rw [htt.1]; omega)) | (by_cases hb8 : hv / 2 = 0 ∨ 256 < T.length + hv / 2; exact cmd_1 hq9 hb8; first | exact cmd_3 hq9 hb8 hod hq8 | (rw [cmd_4 hq9 hb8 hod hq8]; exact if_pos (by rw [htb.1]; omega)) | (rw [cmd_2 hq9 hb8 hev]; exact if_pos (by omega))))]; rfl), (a2_16 - b0), (a2_16), k, f, T, vv_17, ⟨⟨htt, hk, (by omega), (by omega)⟩, cmR_n (show cmd S Bs T a = none from by first | exact cmd_0 hq9 | exact cmd_1 hq9 (Or.inl hz9) | exact cmd_1 hq9 (Or.inr (by rw [htt.1]; omega)) | (by_cases hb8 : hv / 2 = 0 ∨ 256 < T.length + hv / 2; exact cmd_1 hq9 hb8; first | exact cmd_3 hq9 hb8 hod hq8 | (rw [cmd_4 hq9 hb8 hod hq8]; exact if_pos (by rw [htb.1]; omega)) | (rw [cmd_2 hq9 hb8 hev]; exact if_pos (by omega))))⟩, by rw [ht]; exact hP9, va_K.moved hW.alike hK9, hD9⟩, hS.F ht⟩) hS.2.2 d_O_command_44
      · rw [hq8] at hw_19; obtain rfl : r_15 = 1 := hw_19; obtain rfl : vv_17 = nI pd := hu_18_1 pd hq8; have hd_pd := (rd_some hq8).1
        refine lv_if_ne (tgt := 45) hx hb d_O_command_40 (by decide) (fun _ => ?_) (fun h9 => absurd h9 (by decide +kernel))
        refine lv_iload_n hx hb d_O_command_45 rfl (lv_at hl 0 rfl) ?_
        refine lv_if_eq (tgt := 56) hx hb d_O_command_46 (by decide) (fun h9 => absurd h9 (by decide +kernel)) (fun _ => ?_)
        refine lv_aload_n hx hb d_O_command_49 rfl (lv_at hl 2 rfl) ?_
        refine va_get (D := (dC, dI)) (ci := 7) (v := .int (nI pd)) (C := R_O) (T := F_O) (N := 27) hx hb hw0 in_O hown hK hP 2 rfl rfl 26 (by decide) (hw0 (.fieldLink R_O 100 "TextKeeperModel" "value" "I") (List.mem_of_getElem? (i := 179) rfl)) (fun _ h9 => h9) rfl d_O_command_50 ?_
        refine lv_goto (tgt := 60) hx hb d_O_command_53 (by decide) ?_
        refine lv_istore_n (lv' := [(3, .int (nI pd)), (2, .int 1), (1, .int (nI (hv / 2))), (0, .ref h0)]) hx hb d_O_command_60 rfl hl (by decide) rfl (fun ls hl => ?_)
        refine lv_iload_n hx hb d_O_command_61 rfl (lv_at hl 2 rfl) ?_
        refine lv_if_eq (tgt := 98) hx hb d_O_command_62 (by decide) (fun c_20 => ?_) (fun c_20 => ?_)
        · have hz9 : hv / 2 = 0 := (by rcases Nat.eq_zero_or_pos (hv / 2) with z | z; exact z; exact absurd c_20 (nI_ne0 z (by omega)))
          refine lv_iconst (v := 0) hx hb d_O_command_98 (by decide) ?_
          have hP9 := hP.sub (ws' := [(h0, .inr (7, [.int i_thrown, .int i_down, .int i_lasts, v_buffer, .int i_size, .int i_documents, v_gone, v_first, v_many, v_lengths, v_authors, v_sums, .ref hrow, .ref hmade, .int (nI k), .ref hbase, .int (nI kb), v_text, .int i_textSize, .int i_textSteps, v_other, .int i_otherSize, v_piece, .int i_pieceSize, .int (nI (a2_16)), .int (nI en), .int (nI pd)])), (hmade, .inl (cM, 256, .inl (f))), (hbase, .inl (cB, 256, .inl (fb))), (hrow, .inl (cW, 16384, .inl (fr)))]) [2, 0, 1, 3] rfl
          have hD9 := hD.sub (ws' := [(h0, .inr (7, [.int i_thrown, .int i_down, .int i_lasts, v_buffer, .int i_size, .int i_documents, v_gone, v_first, v_many, v_lengths, v_authors, v_sums, .ref hrow, .ref hmade, .int (nI k), .ref hbase, .int (nI kb), v_text, .int i_textSize, .int i_textSteps, v_other, .int i_otherSize, v_piece, .int i_pieceSize, .int (nI (a2_16)), .int (nI en), .int (nI pd)])), (hmade, .inl (cM, 256, .inl (f))), (hbase, .inl (cB, 256, .inl (fb))), (hrow, .inl (cW, 16384, .inl (fr)))]) [2, 0, 1, 3] (by decide) rfl
          have hK9 := hK.sub (tys' := [(cM, .byte), (cB, .byte), (cW, .byte)]) [0, 1, 2] rfl
          exact W.zret (v := 0) (ty := .boolean) hx hb hr rfl (fun t ht hW => ⟨⟨0, (), rfl, (by rw [(show cmd S Bs T a = none from by first | exact cmd_0 hq9 | exact cmd_1 hq9 (Or.inl hz9) | exact cmd_1 hq9 (Or.inr (by rw [htt.1]; omega)) | (by_cases hb8 : hv / 2 = 0 ∨ 256 < T.length + hv / 2; exact cmd_1 hq9 hb8; first | exact cmd_3 hq9 hb8 hod hq8 | (rw [cmd_4 hq9 hb8 hod hq8]; exact if_pos (by rw [htb.1]; omega)) | (rw [cmd_2 hq9 hb8 hev]; exact if_pos (by omega))))]; rfl), (a2_16 - b0), (a2_16), k, f, T, (nI pd), ⟨⟨htt, hk, (by omega), (by omega)⟩, cmR_n (show cmd S Bs T a = none from by first | exact cmd_0 hq9 | exact cmd_1 hq9 (Or.inl hz9) | exact cmd_1 hq9 (Or.inr (by rw [htt.1]; omega)) | (by_cases hb8 : hv / 2 = 0 ∨ 256 < T.length + hv / 2; exact cmd_1 hq9 hb8; first | exact cmd_3 hq9 hb8 hod hq8 | (rw [cmd_4 hq9 hb8 hod hq8]; exact if_pos (by rw [htb.1]; omega)) | (rw [cmd_2 hq9 hb8 hev]; exact if_pos (by omega))))⟩, by rw [ht]; exact hP9, va_K.moved hW.alike hK9, hD9⟩, hS.F ht⟩) hS.2.2 d_O_command_99
        · have hz8 : ¬ hv / 2 = 0 := (fun z => c_20 (by rw [z]; rfl))
          refine lv_aload_n hx hb d_O_command_65 rfl (lv_at hl 3 rfl) ?_
          refine va_get (D := (dC, dI)) (ci := 7) (v := .int (nI k)) (C := R_O) (T := F_O) (N := 27) hx hb hw0 in_O hown hK hP 2 rfl rfl 14 (by decide) (hw0 (.fieldLink R_O 113 "TextKeeperModel" "madeSize" "I") (List.mem_of_getElem? (i := 164) rfl)) (fun _ h9 => h9) rfl d_O_command_66 ?_
          refine lv_iload_n hx hb d_O_command_69 rfl (lv_at hl 2 rfl) ?_
          refine lv_iadd hx hb d_O_command_70 ?_
          refine lv_topi (fun x_21 ex_21 => ?_)
          obtain rfl : x_21 = (nI (k + hv / 2)) := by rw [ex_21]; exact nI_add _ _
          clear ex_21
          refine lv_sipush (v := 256) hx hb d_O_command_71 (by decide +kernel) ?_
          refine lv_icmp_gt (tgt := 98) hx hb d_O_command_74 (by decide) (fun c_22 => ?_) (fun c_22 => ?_)
          · have hg9 : 256 < k + hv / 2 := (nI_ltI (by decide) (by omega)).mp c_22
            refine lv_iconst (v := 0) hx hb d_O_command_98 (by decide) ?_
            have hP9 := hP.sub (ws' := [(h0, .inr (7, [.int i_thrown, .int i_down, .int i_lasts, v_buffer, .int i_size, .int i_documents, v_gone, v_first, v_many, v_lengths, v_authors, v_sums, .ref hrow, .ref hmade, .int (nI k), .ref hbase, .int (nI kb), v_text, .int i_textSize, .int i_textSteps, v_other, .int i_otherSize, v_piece, .int i_pieceSize, .int (nI (a2_16)), .int (nI en), .int (nI pd)])), (hmade, .inl (cM, 256, .inl (f))), (hbase, .inl (cB, 256, .inl (fb))), (hrow, .inl (cW, 16384, .inl (fr)))]) [2, 0, 1, 3] rfl
            have hD9 := hD.sub (ws' := [(h0, .inr (7, [.int i_thrown, .int i_down, .int i_lasts, v_buffer, .int i_size, .int i_documents, v_gone, v_first, v_many, v_lengths, v_authors, v_sums, .ref hrow, .ref hmade, .int (nI k), .ref hbase, .int (nI kb), v_text, .int i_textSize, .int i_textSteps, v_other, .int i_otherSize, v_piece, .int i_pieceSize, .int (nI (a2_16)), .int (nI en), .int (nI pd)])), (hmade, .inl (cM, 256, .inl (f))), (hbase, .inl (cB, 256, .inl (fb))), (hrow, .inl (cW, 16384, .inl (fr)))]) [2, 0, 1, 3] (by decide) rfl
            have hK9 := hK.sub (tys' := [(cM, .byte), (cB, .byte), (cW, .byte)]) [0, 1, 2] rfl
            exact W.zret (v := 0) (ty := .boolean) hx hb hr rfl (fun t ht hW => ⟨⟨0, (), rfl, (by rw [(show cmd S Bs T a = none from by first | exact cmd_0 hq9 | exact cmd_1 hq9 (Or.inl hz9) | exact cmd_1 hq9 (Or.inr (by rw [htt.1]; omega)) | (by_cases hb8 : hv / 2 = 0 ∨ 256 < T.length + hv / 2; exact cmd_1 hq9 hb8; first | exact cmd_3 hq9 hb8 hod hq8 | (rw [cmd_4 hq9 hb8 hod hq8]; exact if_pos (by rw [htb.1]; omega)) | (rw [cmd_2 hq9 hb8 hev]; exact if_pos (by omega))))]; rfl), (a2_16 - b0), (a2_16), k, f, T, (nI pd), ⟨⟨htt, hk, (by omega), (by omega)⟩, cmR_n (show cmd S Bs T a = none from by first | exact cmd_0 hq9 | exact cmd_1 hq9 (Or.inl hz9) | exact cmd_1 hq9 (Or.inr (by rw [htt.1]; omega)) | (by_cases hb8 : hv / 2 = 0 ∨ 256 < T.length + hv / 2; exact cmd_1 hq9 hb8; first | exact cmd_3 hq9 hb8 hod hq8 | (rw [cmd_4 hq9 hb8 hod hq8]; exact if_pos (by rw [htb.1]; omega)) | (rw [cmd_2 hq9 hb8 hev]; exact if_pos (by omega))))⟩, by rw [ht]; exact hP9, va_K.moved hW.alike hK9, hD9⟩, hS.F ht⟩) hS.2.2 d_O_command_99
          · have hg8 : k + hv / 2 ≤ 256 := (by rcases Nat.lt_or_ge 256 (k + hv / 2) with z | z; exact absurd (nI_lt z (by omega)) c_22; exact z)
            refine lv_iload_n hx hb d_O_command_77 rfl (lv_at hl 0 rfl) ?_
            refine lv_iload_n hx hb d_O_command_78 rfl (lv_at hl 2 rfl) ?_
            refine lv_iadd hx hb d_O_command_79 ?_
            refine lv_topi (fun x_23 ex_23 => ?_)
            obtain rfl : x_23 = (nI (pd + hv / 2)) := by rw [ex_23]; exact nI_add _ _
            clear ex_23
            refine lv_iload_n hx hb d_O_command_80 rfl (lv_at hl 1 rfl) ?_
            refine lv_if_eq (tgt := 91) hx hb d_O_command_81 (by decide) (fun h9 => absurd h9 (by decide +kernel)) (fun _ => ?_)
            refine lv_aload_n hx hb d_O_command_84 rfl (lv_at hl 3 rfl) ?_
            refine va_get (D := (dC, dI)) (ci := 7) (v := .int (nI kb)) (C := R_O) (T := F_O) (N := 27) hx hb hw0 in_O hown hK hP 2 rfl rfl 16 (by decide) (hw0 (.fieldLink R_O 116 "TextKeeperModel" "baseSize" "I") (List.mem_of_getElem? (i := 206) rfl)) (fun _ h9 => h9) rfl d_O_command_85 ?_
            refine lv_goto (tgt := 95) hx hb d_O_command_88 (by decide) ?_
            refine lv_icmp_le (tgt := 100) hx hb d_O_command_95 (by decide) (fun c_24 => ?_) (fun c_24 => ?_)
            · have hm8 := (nI_leI (by omega) (by omega)).mp c_24
              refine lv_iconst (v := 0) hx hb d_O_command_100 (by decide) ?_
              refine lv_istore (lv' := [(4, .int 0), (3, .int (nI pd)), (2, .int 1), (1, .int (nI (hv / 2))), (0, .ref h0)]) hx hb d_O_command_101 hl (by decide) rfl (fun ls hl => ?_)
              refine lo_cmc h0 i_thrown i_down i_lasts v_buffer i_size i_documents v_gone v_first v_many v_lengths v_authors v_sums v_text i_textSize i_textSteps v_other i_otherSize v_piece i_pieceSize (nI pd) hmade cM k hbase cB kb fb Bs hrow cW fr S a2_16 en b0 T (rd S a).2 (hv / 2) pd htb hsx hk hkb hen (by omega) (by omega) hx hb hml hown hw0 hN (hK.sub (tys' := [(cM, .byte), (cB, .byte), (cW, .byte)]) [0, 1, 2] rfl) hA (fun f9 hf9 H locs hP hD hS ls hl => ?_) (hv / 2 + 1) 0 (by omega) (by omega) f (by rw [List.take_zero, List.append_nil]; exact htt) _ _ (hP.sub (ws' := [(h0, .inr (7, [.int i_thrown, .int i_down, .int i_lasts, v_buffer, .int i_size, .int i_documents, v_gone, v_first, v_many, v_lengths, v_authors, v_sums, .ref hrow, .ref hmade, .int (nI (k + 0)), .ref hbase, .int (nI kb), v_text, .int i_textSize, .int i_textSteps, v_other, .int i_otherSize, v_piece, .int i_pieceSize, .int (nI a2_16), .int (nI en), .int (nI pd)])), (hmade, .inl (cM, 256, .inl (f))), (hbase, .inl (cB, 256, .inl (fb))), (hrow, .inl (cW, 16384, .inl (fr)))]) [2, 0, 1, 3] rfl) (hD.sub (ws' := [(h0, .inr (7, [.int i_thrown, .int i_down, .int i_lasts, v_buffer, .int i_size, .int i_documents, v_gone, v_first, v_many, v_lengths, v_authors, v_sums, .ref hrow, .ref hmade, .int (nI (k + 0)), .ref hbase, .int (nI kb), v_text, .int i_textSize, .int i_textSteps, v_other, .int i_otherSize, v_piece, .int i_pieceSize, .int (nI a2_16), .int (nI en), .int (nI pd)])), (hmade, .inl (cM, 256, .inl (f))), (hbase, .inl (cB, 256, .inl (fb))), (hrow, .inl (cW, 16384, .inl (fr)))]) [2, 0, 1, 3] (by decide) rfl) hS ls (lv_sub hl [0, 4, 3, 2, 1] rfl)
              replace hK := hK.sub (tys' := [(cM, .byte), (cB, .byte), (cW, .byte)]) [0, 1, 2] rfl
              refine lv_aload_n hx hb d_O_command_159 rfl (lv_at hl 1 rfl) ?_
              refine lv_iload_n hx hb d_O_command_160 rfl (lv_at hl 3 rfl) ?_
              refine lv_if_eq (tgt := 171) hx hb d_O_command_161 (by decide) (fun h9 => absurd h9 (by decide +kernel)) (fun _ => ?_)
              refine lv_aload_n hx hb d_O_command_164 rfl (lv_at hl 1 rfl) ?_
              refine va_get (D := (dC, dI)) (ci := 7) (v := .int (nI a2_16)) (C := R_O) (T := F_O) (N := 27) hx hb hw0 in_O hown hK hP 0 rfl rfl 24 (by decide) (hw0 (.fieldLink R_O 103 "TextKeeperModel" "at" "I") (List.mem_of_getElem? (i := 180) rfl)) (fun _ h9 => h9) rfl d_O_command_165 ?_
              refine lv_goto (tgt := 177) hx hb d_O_command_168 (by decide) ?_
              refine va_put (D := (dC, dI)) (ci := 7) (v := .int (nI a2_16)) (ty := .int) (C := R_O) (T := F_O) (N := 27) hx hb hw0 in_O ft_O tk_O nk_O hown hK hP hD hS 0 rfl rfl 24 (by decide) (hw0 (.fieldLink R_O 103 "TextKeeperModel" "at" "I") (List.mem_of_getElem? (i := 180) rfl)) (fun _ h9 => h9) rfl (by decide +kernel) rfl rfl (Nat.le_of_ble_eq_true rfl) d_O_command_177 (fun H locs hP hD hS => ?_)
              replace hP : va_P (dC, dI) vwCl [(h0, .inr (7, [.int i_thrown, .int i_down, .int i_lasts, v_buffer, .int i_size, .int i_documents, v_gone, v_first, v_many, v_lengths, v_authors, v_sums, .ref hrow, .ref hmade, .int (nI (k + hv / 2)), .ref hbase, .int (nI kb), v_text, .int i_textSize, .int i_textSteps, v_other, .int i_otherSize, v_piece, .int i_pieceSize, .int (nI a2_16), .int (nI en), .int (nI pd)])), (hmade, .inl (cM, 256, .inl (f9))), (hbase, .inl (cB, 256, .inl (fb))), (hrow, .inl (cW, 16384, .inl (fr)))] H := hP
              replace hD : va_D A [(h0, .inr (7, [.int i_thrown, .int i_down, .int i_lasts, v_buffer, .int i_size, .int i_documents, v_gone, v_first, v_many, v_lengths, v_authors, v_sums, .ref hrow, .ref hmade, .int (nI (k + hv / 2)), .ref hbase, .int (nI kb), v_text, .int i_textSize, .int i_textSteps, v_other, .int i_otherSize, v_piece, .int i_pieceSize, .int (nI a2_16), .int (nI en), .int (nI pd)])), (hmade, .inl (cM, 256, .inl (f9))), (hbase, .inl (cB, 256, .inl (fb))), (hrow, .inl (cW, 16384, .inl (fr)))] := hD
              refine lv_iconst (v := 1) hx hb d_O_command_180 (by decide) ?_
              have hP9 := hP.sub (ws' := [(h0, .inr (7, [.int i_thrown, .int i_down, .int i_lasts, v_buffer, .int i_size, .int i_documents, v_gone, v_first, v_many, v_lengths, v_authors, v_sums, .ref hrow, .ref hmade, .int (nI (k + hv / 2)), .ref hbase, .int (nI kb), v_text, .int i_textSize, .int i_textSteps, v_other, .int i_otherSize, v_piece, .int i_pieceSize, .int (nI (a2_16)), .int (nI en), .int (nI pd)])), (hmade, .inl (cM, 256, .inl (f9))), (hbase, .inl (cB, 256, .inl (fb))), (hrow, .inl (cW, 16384, .inl (fr)))]) [0, 1, 2, 3] rfl
              have hD9 := hD.sub (ws' := [(h0, .inr (7, [.int i_thrown, .int i_down, .int i_lasts, v_buffer, .int i_size, .int i_documents, v_gone, v_first, v_many, v_lengths, v_authors, v_sums, .ref hrow, .ref hmade, .int (nI (k + hv / 2)), .ref hbase, .int (nI kb), v_text, .int i_textSize, .int i_textSteps, v_other, .int i_otherSize, v_piece, .int i_pieceSize, .int (nI (a2_16)), .int (nI en), .int (nI pd)])), (hmade, .inl (cM, 256, .inl (f9))), (hbase, .inl (cB, 256, .inl (fb))), (hrow, .inl (cW, 16384, .inl (fr)))]) [0, 1, 2, 3] (by decide) rfl
              have hK9 := hK.sub (tys' := [(cM, .byte), (cB, .byte), (cW, .byte)]) [0, 1, 2] rfl
              exact W.zret (v := 1) (ty := .boolean) hx hb hr rfl (fun t ht hW => ⟨⟨1, (), rfl, (by rw [(show cmd S Bs T a = some _ from by rw [cmd_4 hq9 (by rw [htt.1]; omega) hod hq8, if_neg (by rw [htb.1]; omega)])]; rfl), (rd S (rd S a).2).2, (a2_16), (k + hv / 2), f9, (T ++ (Bs.drop pd).take (hv / 2)), (nI pd), ⟨⟨hf9, (by omega), (by omega), (by omega)⟩, cmR_s (show cmd S Bs T a = some _ from by rw [cmd_4 hq9 (by rw [htt.1]; omega) hod hq8, if_neg (by rw [htb.1]; omega)])⟩, by rw [ht]; exact hP9, va_K.moved hW.alike hK9, hD9⟩, hS.F ht⟩) hS.2.2 d_O_command_181
            · have hm9 := mt (nI_leI (by omega) (by omega)).mpr c_24
              refine lv_iconst (v := 0) hx hb d_O_command_98 (by decide) ?_
              have hP9 := hP.sub (ws' := [(h0, .inr (7, [.int i_thrown, .int i_down, .int i_lasts, v_buffer, .int i_size, .int i_documents, v_gone, v_first, v_many, v_lengths, v_authors, v_sums, .ref hrow, .ref hmade, .int (nI k), .ref hbase, .int (nI kb), v_text, .int i_textSize, .int i_textSteps, v_other, .int i_otherSize, v_piece, .int i_pieceSize, .int (nI (a2_16)), .int (nI en), .int (nI pd)])), (hmade, .inl (cM, 256, .inl (f))), (hbase, .inl (cB, 256, .inl (fb))), (hrow, .inl (cW, 16384, .inl (fr)))]) [2, 0, 1, 3] rfl
              have hD9 := hD.sub (ws' := [(h0, .inr (7, [.int i_thrown, .int i_down, .int i_lasts, v_buffer, .int i_size, .int i_documents, v_gone, v_first, v_many, v_lengths, v_authors, v_sums, .ref hrow, .ref hmade, .int (nI k), .ref hbase, .int (nI kb), v_text, .int i_textSize, .int i_textSteps, v_other, .int i_otherSize, v_piece, .int i_pieceSize, .int (nI (a2_16)), .int (nI en), .int (nI pd)])), (hmade, .inl (cM, 256, .inl (f))), (hbase, .inl (cB, 256, .inl (fb))), (hrow, .inl (cW, 16384, .inl (fr)))]) [2, 0, 1, 3] (by decide) rfl
              have hK9 := hK.sub (tys' := [(cM, .byte), (cB, .byte), (cW, .byte)]) [0, 1, 2] rfl
              exact W.zret (v := 0) (ty := .boolean) hx hb hr rfl (fun t ht hW => ⟨⟨0, (), rfl, (by rw [(show cmd S Bs T a = none from by first | exact cmd_0 hq9 | exact cmd_1 hq9 (Or.inl hz9) | exact cmd_1 hq9 (Or.inr (by rw [htt.1]; omega)) | (by_cases hb8 : hv / 2 = 0 ∨ 256 < T.length + hv / 2; exact cmd_1 hq9 hb8; first | exact cmd_3 hq9 hb8 hod hq8 | (rw [cmd_4 hq9 hb8 hod hq8]; exact if_pos (by rw [htb.1]; omega)) | (rw [cmd_2 hq9 hb8 hev]; exact if_pos (by omega))))]; rfl), (a2_16 - b0), (a2_16), k, f, T, (nI pd), ⟨⟨htt, hk, (by omega), (by omega)⟩, cmR_n (show cmd S Bs T a = none from by first | exact cmd_0 hq9 | exact cmd_1 hq9 (Or.inl hz9) | exact cmd_1 hq9 (Or.inr (by rw [htt.1]; omega)) | (by_cases hb8 : hv / 2 = 0 ∨ 256 < T.length + hv / 2; exact cmd_1 hq9 hb8; first | exact cmd_3 hq9 hb8 hod hq8 | (rw [cmd_4 hq9 hb8 hod hq8]; exact if_pos (by rw [htb.1]; omega)) | (rw [cmd_2 hq9 hb8 hev]; exact if_pos (by omega))))⟩, by rw [ht]; exact hP9, va_K.moved hW.alike hK9, hD9⟩, hS.F ht⟩) hS.2.2 d_O_command_99
