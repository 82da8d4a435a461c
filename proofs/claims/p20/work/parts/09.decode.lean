set_option maxHeartbeats 4000000 in
set_option maxRecDepth 100000 in
theorem g_readNumber (l : Launch) (dC : Nat → ClassId) (dI : Nat → Nat → Nat) (sz : Nat) (h0 : Nat) (v_base : Value) (v_text : Value) (hpi : Nat) (cP : ClassId) (n : Nat) (fp : Nat → Int32) (S : List Int32) (a : Nat) (hs9 : tx S n fp) (hn : n ≤ 16384) (ha : a ≤ n) : Met l y_M_readNumber k_M_readNumber ({ frames := 0, cells := 0, slots := 0, locals := 0 } : Room) (va_Pc [.ref h0] (pc_E (dC, dI) [(h0, .inr (2, [v_base, v_text, .ref hpi, .int (nI a)])), (hpi, .inl (cP, n, .inl (fp)))] [(cP, .byte)] sz)) (va_Qi (fun (r : Int32) (_ : Unit) => r = vI (rd S a).1) (fun (_ : Unit) t => ∃ (a2 : Nat), (a2 = (rd S a).2) ∧ at_E (dC, dI) (va_A [(h0, .inr (2, [v_base, v_text, .ref hpi, .int (nI a)])), (hpi, .inl (cP, n, .inl (fp)))] sz) [(h0, .inr (2, [v_base, v_text, .ref hpi, .int (nI a2)])), (hpi, .inl (cP, n, .inl (fp)))] [(cP, .byte)] t) (va_A [(h0, .inr (2, [v_base, v_text, .ref hpi, .int (nI a)])), (hpi, .inl (cP, n, .inl (fp)))] sz)) 0 0 (va_A [(h0, .inr (2, [v_base, v_text, .ref hpi, .int (nI a)])), (hpi, .inl (cP, n, .inl (fp)))] sz) := by
  refine Met.ofW (cc := prog_3_method_8_code) (maxL := 4) (ret := (some .int)) (by decide) rfl ?_
  intro p e s m args below meth c s₁ B hml hv
  obtain ⟨rfl, hsz, hP, hK, hD0, hN⟩ := hv
  have hx := B.exec
  have hb := B.bytes
  have hr := B.returns
  have hts := atoms_spec (ws := k_M_readNumber) B.pre
  have hw0 : ∀ w ∈ w0, w.before _ s = true := fun w h => hts w (List.mem_cons_of_mem _ h)
  have hown : s.vm.findClass R_M = some m.cls := findClass_of_methodNamed B.named
  have hlocks := B.notSynchronized
  subst hsz
  have hD := hD0.self (sz := s.heap.size)
  generalize hAe : va_A [(h0, .inr (2, [v_base, v_text, .ref hpi, .int (nI a)])), (hpi, .inl (cP, n, .inl (fp)))] s.heap.size = A at hD ⊢
  have hA : ∀ q : Nat, s.heap.size ≤ q → A q := fun q h => by rw [← hAe]; exact Or.inr h
  have hS : va_S A s.heap s.heap [] := va_S.rf
  have hP : va_P (dC, dI) vwCl [(h0, .inr (2, [v_base, v_text, .ref hpi, .int (nI a)])), (hpi, .inl (cP, n, .inl (fp)))] s.heap := hP
  have hl := lv_entry ([.ref h0]) (n := 4) (Nat.le_of_ble_eq_true rfl)
  rw [lg_entry_eq]
  generalize (lg_sl ([.ref h0]) ++ List.replicate (4 - (lg_sl ([.ref h0])).length) Slot.unset).toArray = ls at hl ⊢
  have hl : lv_has ls 4 [(0, .ref h0)] := hl
  have hl9 : S.length = n := hs9.1
  refine lv_iconst (v := 0) hx hb d_M_readNumber_0 (by decide) ?_
  refine lv_istore_n (lv' := [(1, .int 0), (0, .ref h0)]) hx hb d_M_readNumber_1 rfl hl (by decide) rfl (fun ls hl => ?_)
  refine lv_iconst (v := 0) hx hb d_M_readNumber_2 (by decide) ?_
  refine lv_istore_n (lv' := [(2, .int 0), (1, .int 0), (0, .ref h0)]) hx hb d_M_readNumber_3 rfl hl (by decide) rfl (fun ls hl => ?_)
  refine lv_iload_n hx hb d_M_readNumber_4 rfl (lv_at hl 0 rfl) ?_
  refine lv_iconst (v := 3) hx hb d_M_readNumber_5 (by decide) ?_
  refine lv_icmp_ge (tgt := 75) hx hb d_M_readNumber_6 (by decide) (fun h9 => absurd h9 (by decide +kernel)) (fun _ => ?_)
  refine lv_aload_n hx hb d_M_readNumber_9 rfl (lv_at hl 2 rfl) ?_
  refine va_get (D := (dC, dI)) (ci := 2) (v := .int (nI a)) (C := R_M) (T := F_M) (N := 4) hx hb hw0 in_M hown hK hP 0 rfl rfl 3 (by decide) (hw0 (.fieldLink R_M 25 "TextKeeper$Maker" "at" "I") (List.mem_of_getElem? (i := 76) rfl)) (fun _ h9 => h9) rfl d_M_readNumber_10 ?_
  refine lv_aload_n hx hb d_M_readNumber_13 rfl (lv_at hl 2 rfl) ?_
  refine va_get (D := (dC, dI)) (ci := 2) (v := .ref hpi) (C := R_M) (T := F_M) (N := 4) hx hb hw0 in_M hown hK hP 0 rfl rfl 2 (by decide) (hw0 (.fieldLink R_M 21 "TextKeeper$Maker" "piece" "[B") (List.mem_of_getElem? (i := 75) rfl)) (fun _ h9 => h9) rfl d_M_readNumber_14 ?_
  refine va_alen (v := nI n) hx hb hK hP 1 0 rfl rfl (rfl) d_M_readNumber_17 ?_
  refine lv_icmp_lt (tgt := 23) hx hb d_M_readNumber_18 (by decide) (fun c_1 => ?_) (fun c_1 => ?_)
  · have hA_3 : a < n := (nI_ltI (by omega) (by omega)).mp c_1
    refine lv_aload_n hx hb d_M_readNumber_23 rfl (lv_at hl 2 rfl) ?_
    refine va_get (D := (dC, dI)) (ci := 2) (v := .ref hpi) (C := R_M) (T := F_M) (N := 4) hx hb hw0 in_M hown hK hP 0 rfl rfl 2 (by decide) (hw0 (.fieldLink R_M 21 "TextKeeper$Maker" "piece" "[B") (List.mem_of_getElem? (i := 75) rfl)) (fun _ h9 => h9) rfl d_M_readNumber_24 ?_
    refine lv_aload_n hx hb d_M_readNumber_27 rfl (lv_at hl 2 rfl) ?_
    refine va_get (D := (dC, dI)) (ci := 2) (v := .int (nI a)) (C := R_M) (T := F_M) (N := 4) hx hb hw0 in_M hown hK hP 0 rfl rfl 3 (by decide) (hw0 (.fieldLink R_M 25 "TextKeeper$Maker" "at" "I") (List.mem_of_getElem? (i := 76) rfl)) (fun _ h9 => h9) rfl d_M_readNumber_28 ?_
    refine va_bald hx hb hK hP 1 0 rfl rfl (vp_in_nI (by omega) (by omega)) d_M_readNumber_31 ?_
    refine lv_topi (fun x_4 ex_4 => ?_)
    refine lv_sipush (v := 255) hx hb d_M_readNumber_32 (by decide +kernel) ?_
    refine lv_iand hx hb d_M_readNumber_35 ?_
    refine lv_topi (fun x_5 ex_5 => ?_)
    obtain rfl : x_5 = (nI (byv S a)) := by rw [ex_5, ex_4]; exact ld_byv hs9 (by omega) (by omega)
    clear ex_5
    refine lv_istore_n (lv' := [(3, .int (nI (byv S a))), (2, .int 0), (1, .int 0), (0, .ref h0)]) hx hb d_M_readNumber_36 rfl hl (by decide) rfl (fun ls hl => ?_)
    refine lv_aload_n hx hb d_M_readNumber_37 rfl (lv_at hl 3 rfl) ?_
    refine lv_dup hx hb d_M_readNumber_38 rfl ?_
    refine va_get (D := (dC, dI)) (ci := 2) (v := .int (nI a)) (C := R_M) (T := F_M) (N := 4) hx hb hw0 in_M hown hK hP 0 rfl rfl 3 (by decide) (hw0 (.fieldLink R_M 25 "TextKeeper$Maker" "at" "I") (List.mem_of_getElem? (i := 76) rfl)) (fun _ h9 => h9) rfl d_M_readNumber_39 ?_
    refine lv_iconst (v := 1) hx hb d_M_readNumber_42 (by decide) ?_
    refine lv_iadd hx hb d_M_readNumber_43 ?_
    refine lv_topi (fun x_6 ex_6 => ?_)
    obtain rfl : x_6 = (nI (a + 1)) := by rw [ex_6]; exact nI_1 (a)
    clear ex_6
    refine va_put (D := (dC, dI)) (ci := 2) (v := .int (nI (a + 1))) (ty := .int) (C := R_M) (T := F_M) (N := 4) hx hb hw0 in_M ft_M tk_M nk_M hown hK hP hD hS 0 rfl rfl 3 (by decide) (hw0 (.fieldLink R_M 25 "TextKeeper$Maker" "at" "I") (List.mem_of_getElem? (i := 76) rfl)) (fun _ h9 => h9) rfl (by decide +kernel) rfl rfl (Nat.le_of_ble_eq_true rfl) d_M_readNumber_44 (fun H locs hP hD hS => ?_)
    replace hP : va_P (dC, dI) vwCl [(h0, .inr (2, [v_base, v_text, .ref hpi, .int (nI (a + 1))])), (hpi, .inl (cP, n, .inl (fp)))] H := hP
    replace hD : va_D A [(h0, .inr (2, [v_base, v_text, .ref hpi, .int (nI (a + 1))])), (hpi, .inl (cP, n, .inl (fp)))] := hD
    refine lv_iload_n hx hb d_M_readNumber_47 rfl (lv_at hl 2 rfl) ?_
    refine lv_iload_n hx hb d_M_readNumber_48 rfl (lv_at hl 0 rfl) ?_
    refine lv_sipush (v := 128) hx hb d_M_readNumber_49 (by decide +kernel) ?_
    refine lv_irem hx hb d_M_readNumber_52 (by decide +kernel) ?_
    refine lv_topi (fun x_7 ex_7 => ?_)
    obtain rfl : x_7 = (nI (byv S a % 128)) := by rw [ex_7]; exact (show nI (byv S a) - nI (byv S a) / nI 128 * nI 128 = nI (byv S a % 128) from pk_rem (Nat.lt_trans (byv_lt _ _) (by decide)) (by decide) (by decide))
    clear ex_7
    refine lv_bipush (v := 7) hx hb d_M_readNumber_53 (by decide +kernel) ?_
    refine lv_iload_n hx hb d_M_readNumber_55 rfl (lv_at hl 1 rfl) ?_
    refine lv_imul hx hb d_M_readNumber_56 ?_
    refine lv_topi (fun x_8 ex_8 => ?_)
    obtain rfl : x_8 = 0 := ex_8.trans (by decide +kernel)
    clear ex_8
    refine lv_ishl hx hb d_M_readNumber_57 ?_
    refine lv_topi (fun x_9 ex_9 => ?_)
    obtain rfl : x_9 = (nI (byv S a % 128)) := by rw [ex_9]; exact sh_0 _ (Nat.mod_lt _ (by decide))
    clear ex_9
    refine lv_iadd hx hb d_M_readNumber_58 ?_
    refine lv_topi (fun x_10 ex_10 => ?_)
    obtain rfl : x_10 = (nI (byv S a % 128)) := by rw [ex_10]; exact Int32.zero_add _
    clear ex_10
    refine lv_istore_n (lv' := [(1, .int (nI (byv S a % 128))), (3, .int (nI (byv S a))), (2, .int 0), (0, .ref h0)]) hx hb d_M_readNumber_59 rfl hl (by decide) rfl (fun ls hl => ?_)
    refine lv_iload_n hx hb d_M_readNumber_60 rfl (lv_at hl 1 rfl) ?_
    refine lv_sipush (v := 128) hx hb d_M_readNumber_61 (by decide +kernel) ?_
    refine lv_icmp_ge (tgt := 69) hx hb d_M_readNumber_64 (by decide) (fun c_11 => ?_) (fun c_11 => ?_)
    · have hV_13 : ¬ byv S a < 128 := (fun z => absurd (nI_lt z (by decide)) (Int32.not_lt.mpr c_11))
      refine lv_iinc (v := 1) (lv' := [(2, .int 1), (1, .int (nI (byv S a % 128))), (3, .int (nI (byv S a))), (0, .ref h0)]) hx hb d_M_readNumber_69 hl (k := 2) rfl (by decide +kernel) (by decide) rfl (fun ls hl => ?_)
      refine lv_goto (tgt := 4) hx hb d_M_readNumber_72 (by decide) ?_
      refine lv_iload_n hx hb d_M_readNumber_4 rfl (lv_at hl 0 rfl) ?_
      refine lv_iconst (v := 3) hx hb d_M_readNumber_5 (by decide) ?_
      refine lv_icmp_ge (tgt := 75) hx hb d_M_readNumber_6 (by decide) (fun h9 => absurd h9 (by decide +kernel)) (fun _ => ?_)
      refine lv_aload_n hx hb d_M_readNumber_9 rfl (lv_at hl 3 rfl) ?_
      refine va_get (D := (dC, dI)) (ci := 2) (v := .int (nI (a + 1))) (C := R_M) (T := F_M) (N := 4) hx hb hw0 in_M hown hK hP 0 rfl rfl 3 (by decide) (hw0 (.fieldLink R_M 25 "TextKeeper$Maker" "at" "I") (List.mem_of_getElem? (i := 76) rfl)) (fun _ h9 => h9) rfl d_M_readNumber_10 ?_
      refine lv_aload_n hx hb d_M_readNumber_13 rfl (lv_at hl 3 rfl) ?_
      refine va_get (D := (dC, dI)) (ci := 2) (v := .ref hpi) (C := R_M) (T := F_M) (N := 4) hx hb hw0 in_M hown hK hP 0 rfl rfl 2 (by decide) (hw0 (.fieldLink R_M 21 "TextKeeper$Maker" "piece" "[B") (List.mem_of_getElem? (i := 75) rfl)) (fun _ h9 => h9) rfl d_M_readNumber_14 ?_
      refine va_alen (v := nI n) hx hb hK hP 1 0 rfl rfl (rfl) d_M_readNumber_17 ?_
      refine lv_icmp_lt (tgt := 23) hx hb d_M_readNumber_18 (by decide) (fun c_14 => ?_) (fun c_14 => ?_)
      · have hA_16 : a + 1 < n := (nI_ltI (by omega) (by omega)).mp c_14
        refine lv_aload_n hx hb d_M_readNumber_23 rfl (lv_at hl 3 rfl) ?_
        refine va_get (D := (dC, dI)) (ci := 2) (v := .ref hpi) (C := R_M) (T := F_M) (N := 4) hx hb hw0 in_M hown hK hP 0 rfl rfl 2 (by decide) (hw0 (.fieldLink R_M 21 "TextKeeper$Maker" "piece" "[B") (List.mem_of_getElem? (i := 75) rfl)) (fun _ h9 => h9) rfl d_M_readNumber_24 ?_
        refine lv_aload_n hx hb d_M_readNumber_27 rfl (lv_at hl 3 rfl) ?_
        refine va_get (D := (dC, dI)) (ci := 2) (v := .int (nI (a + 1))) (C := R_M) (T := F_M) (N := 4) hx hb hw0 in_M hown hK hP 0 rfl rfl 3 (by decide) (hw0 (.fieldLink R_M 25 "TextKeeper$Maker" "at" "I") (List.mem_of_getElem? (i := 76) rfl)) (fun _ h9 => h9) rfl d_M_readNumber_28 ?_
        refine va_bald hx hb hK hP 1 0 rfl rfl (vp_in_nI (by omega) (by omega)) d_M_readNumber_31 ?_
        refine lv_topi (fun x_17 ex_17 => ?_)
        refine lv_sipush (v := 255) hx hb d_M_readNumber_32 (by decide +kernel) ?_
        refine lv_iand hx hb d_M_readNumber_35 ?_
        refine lv_topi (fun x_18 ex_18 => ?_)
        obtain rfl : x_18 = (nI (byv S (a + 1))) := by rw [ex_18, ex_17]; exact ld_byv hs9 (by omega) (by omega)
        clear ex_18
        refine lv_istore_n (lv' := [(3, .int (nI (byv S (a + 1)))), (2, .int 1), (1, .int (nI (byv S a % 128))), (0, .ref h0)]) hx hb d_M_readNumber_36 rfl hl (by decide) rfl (fun ls hl => ?_)
        refine lv_aload_n hx hb d_M_readNumber_37 rfl (lv_at hl 3 rfl) ?_
        refine lv_dup hx hb d_M_readNumber_38 rfl ?_
        refine va_get (D := (dC, dI)) (ci := 2) (v := .int (nI (a + 1))) (C := R_M) (T := F_M) (N := 4) hx hb hw0 in_M hown hK hP 0 rfl rfl 3 (by decide) (hw0 (.fieldLink R_M 25 "TextKeeper$Maker" "at" "I") (List.mem_of_getElem? (i := 76) rfl)) (fun _ h9 => h9) rfl d_M_readNumber_39 ?_
        refine lv_iconst (v := 1) hx hb d_M_readNumber_42 (by decide) ?_
        refine lv_iadd hx hb d_M_readNumber_43 ?_
        refine lv_topi (fun x_19 ex_19 => ?_)
        obtain rfl : x_19 = (nI (a + 1 + 1)) := by rw [ex_19]; exact nI_1 (a + 1)
        clear ex_19
        refine va_put (D := (dC, dI)) (ci := 2) (v := .int (nI (a + 1 + 1))) (ty := .int) (C := R_M) (T := F_M) (N := 4) hx hb hw0 in_M ft_M tk_M nk_M hown hK hP hD hS 0 rfl rfl 3 (by decide) (hw0 (.fieldLink R_M 25 "TextKeeper$Maker" "at" "I") (List.mem_of_getElem? (i := 76) rfl)) (fun _ h9 => h9) rfl (by decide +kernel) rfl rfl (Nat.le_of_ble_eq_true rfl) d_M_readNumber_44 (fun H locs hP hD hS => ?_)
        replace hP : va_P (dC, dI) vwCl [(h0, .inr (2, [v_base, v_text, .ref hpi, .int (nI (a + 1 + 1))])), (hpi, .inl (cP, n, .inl (fp)))] H := hP
        replace hD : va_D A [(h0, .inr (2, [v_base, v_text, .ref hpi, .int (nI (a + 1 + 1))])), (hpi, .inl (cP, n, .inl (fp)))] := hD
        refine lv_iload_n hx hb d_M_readNumber_47 rfl (lv_at hl 2 rfl) ?_
        refine lv_iload_n hx hb d_M_readNumber_48 rfl (lv_at hl 0 rfl) ?_
        refine lv_sipush (v := 128) hx hb d_M_readNumber_49 (by decide +kernel) ?_
        refine lv_irem hx hb d_M_readNumber_52 (by decide +kernel) ?_
        refine lv_topi (fun x_20 ex_20 => ?_)
        obtain rfl : x_20 = (nI (byv S (a + 1) % 128)) := by rw [ex_20]; exact (show nI (byv S (a + 1)) - nI (byv S (a + 1)) / nI 128 * nI 128 = nI (byv S (a + 1) % 128) from pk_rem (Nat.lt_trans (byv_lt _ _) (by decide)) (by decide) (by decide))
        clear ex_20
        refine lv_bipush (v := 7) hx hb d_M_readNumber_53 (by decide +kernel) ?_
        refine lv_iload_n hx hb d_M_readNumber_55 rfl (lv_at hl 1 rfl) ?_
        refine lv_imul hx hb d_M_readNumber_56 ?_
        refine lv_topi (fun x_21 ex_21 => ?_)
        obtain rfl : x_21 = 7 := ex_21.trans (by decide +kernel)
        clear ex_21
        refine lv_ishl hx hb d_M_readNumber_57 ?_
        refine lv_topi (fun x_22 ex_22 => ?_)
        obtain rfl : x_22 = (nI (byv S (a + 1) % 128 * 128)) := by rw [ex_22]; exact sh_7 _ (Nat.mod_lt _ (by decide))
        clear ex_22
        refine lv_iadd hx hb d_M_readNumber_58 ?_
        refine lv_topi (fun x_23 ex_23 => ?_)
        obtain rfl : x_23 = (nI (byv S a % 128 + byv S (a + 1) % 128 * 128)) := by rw [ex_23]; exact nI_add (byv S a % 128) (byv S (a + 1) % 128 * 128)
        clear ex_23
        refine lv_istore_n (lv' := [(1, .int (nI (byv S a % 128 + byv S (a + 1) % 128 * 128))), (3, .int (nI (byv S (a + 1)))), (2, .int 1), (0, .ref h0)]) hx hb d_M_readNumber_59 rfl hl (by decide) rfl (fun ls hl => ?_)
        refine lv_iload_n hx hb d_M_readNumber_60 rfl (lv_at hl 1 rfl) ?_
        refine lv_sipush (v := 128) hx hb d_M_readNumber_61 (by decide +kernel) ?_
        refine lv_icmp_ge (tgt := 69) hx hb d_M_readNumber_64 (by decide) (fun c_24 => ?_) (fun c_24 => ?_)
        · have hV_26 : ¬ byv S (a + 1) < 128 := (fun z => absurd (nI_lt z (by decide)) (Int32.not_lt.mpr c_24))
          refine lv_iinc (v := 2) (lv' := [(2, .int 2), (1, .int (nI (byv S a % 128 + byv S (a + 1) % 128 * 128))), (3, .int (nI (byv S (a + 1)))), (0, .ref h0)]) hx hb d_M_readNumber_69 hl (k := 2) rfl (by decide +kernel) (by decide) rfl (fun ls hl => ?_)
          refine lv_goto (tgt := 4) hx hb d_M_readNumber_72 (by decide) ?_
          refine lv_iload_n hx hb d_M_readNumber_4 rfl (lv_at hl 0 rfl) ?_
          refine lv_iconst (v := 3) hx hb d_M_readNumber_5 (by decide) ?_
          refine lv_icmp_ge (tgt := 75) hx hb d_M_readNumber_6 (by decide) (fun h9 => absurd h9 (by decide +kernel)) (fun _ => ?_)
          refine lv_aload_n hx hb d_M_readNumber_9 rfl (lv_at hl 3 rfl) ?_
          refine va_get (D := (dC, dI)) (ci := 2) (v := .int (nI (a + 1 + 1))) (C := R_M) (T := F_M) (N := 4) hx hb hw0 in_M hown hK hP 0 rfl rfl 3 (by decide) (hw0 (.fieldLink R_M 25 "TextKeeper$Maker" "at" "I") (List.mem_of_getElem? (i := 76) rfl)) (fun _ h9 => h9) rfl d_M_readNumber_10 ?_
          refine lv_aload_n hx hb d_M_readNumber_13 rfl (lv_at hl 3 rfl) ?_
          refine va_get (D := (dC, dI)) (ci := 2) (v := .ref hpi) (C := R_M) (T := F_M) (N := 4) hx hb hw0 in_M hown hK hP 0 rfl rfl 2 (by decide) (hw0 (.fieldLink R_M 21 "TextKeeper$Maker" "piece" "[B") (List.mem_of_getElem? (i := 75) rfl)) (fun _ h9 => h9) rfl d_M_readNumber_14 ?_
          refine va_alen (v := nI n) hx hb hK hP 1 0 rfl rfl (rfl) d_M_readNumber_17 ?_
          refine lv_icmp_lt (tgt := 23) hx hb d_M_readNumber_18 (by decide) (fun c_27 => ?_) (fun c_27 => ?_)
          · have hA_29 : a + 1 + 1 < n := (nI_ltI (by omega) (by omega)).mp c_27
            refine lv_aload_n hx hb d_M_readNumber_23 rfl (lv_at hl 3 rfl) ?_
            refine va_get (D := (dC, dI)) (ci := 2) (v := .ref hpi) (C := R_M) (T := F_M) (N := 4) hx hb hw0 in_M hown hK hP 0 rfl rfl 2 (by decide) (hw0 (.fieldLink R_M 21 "TextKeeper$Maker" "piece" "[B") (List.mem_of_getElem? (i := 75) rfl)) (fun _ h9 => h9) rfl d_M_readNumber_24 ?_
            refine lv_aload_n hx hb d_M_readNumber_27 rfl (lv_at hl 3 rfl) ?_
            refine va_get (D := (dC, dI)) (ci := 2) (v := .int (nI (a + 1 + 1))) (C := R_M) (T := F_M) (N := 4) hx hb hw0 in_M hown hK hP 0 rfl rfl 3 (by decide) (hw0 (.fieldLink R_M 25 "TextKeeper$Maker" "at" "I") (List.mem_of_getElem? (i := 76) rfl)) (fun _ h9 => h9) rfl d_M_readNumber_28 ?_
            refine va_bald hx hb hK hP 1 0 rfl rfl (vp_in_nI (by omega) (by omega)) d_M_readNumber_31 ?_
            refine lv_topi (fun x_30 ex_30 => ?_)
            refine lv_sipush (v := 255) hx hb d_M_readNumber_32 (by decide +kernel) ?_
            refine lv_iand hx hb d_M_readNumber_35 ?_
            refine lv_topi (fun x_31 ex_31 => ?_)
            obtain rfl : x_31 = (nI (byv S (a + 1 + 1))) := by rw [ex_31, ex_30]; exact ld_byv hs9 (by omega) (by omega)
            clear ex_31
            refine lv_istore_n (lv' := [(3, .int (nI (byv S (a + 1 + 1)))), (2, .int 2), (1, .int (nI (byv S a % 128 + byv S (a + 1) % 128 * 128))), (0, .ref h0)]) hx hb d_M_readNumber_36 rfl hl (by decide) rfl (fun ls hl => ?_)
            refine lv_aload_n hx hb d_M_readNumber_37 rfl (lv_at hl 3 rfl) ?_
            refine lv_dup hx hb d_M_readNumber_38 rfl ?_
            refine va_get (D := (dC, dI)) (ci := 2) (v := .int (nI (a + 1 + 1))) (C := R_M) (T := F_M) (N := 4) hx hb hw0 in_M hown hK hP 0 rfl rfl 3 (by decide) (hw0 (.fieldLink R_M 25 "TextKeeper$Maker" "at" "I") (List.mem_of_getElem? (i := 76) rfl)) (fun _ h9 => h9) rfl d_M_readNumber_39 ?_
            refine lv_iconst (v := 1) hx hb d_M_readNumber_42 (by decide) ?_
            refine lv_iadd hx hb d_M_readNumber_43 ?_
            refine lv_topi (fun x_32 ex_32 => ?_)
            obtain rfl : x_32 = (nI (a + 1 + 1 + 1)) := by rw [ex_32]; exact nI_1 (a + 1 + 1)
            clear ex_32
            refine va_put (D := (dC, dI)) (ci := 2) (v := .int (nI (a + 1 + 1 + 1))) (ty := .int) (C := R_M) (T := F_M) (N := 4) hx hb hw0 in_M ft_M tk_M nk_M hown hK hP hD hS 0 rfl rfl 3 (by decide) (hw0 (.fieldLink R_M 25 "TextKeeper$Maker" "at" "I") (List.mem_of_getElem? (i := 76) rfl)) (fun _ h9 => h9) rfl (by decide +kernel) rfl rfl (Nat.le_of_ble_eq_true rfl) d_M_readNumber_44 (fun H locs hP hD hS => ?_)
            replace hP : va_P (dC, dI) vwCl [(h0, .inr (2, [v_base, v_text, .ref hpi, .int (nI (a + 1 + 1 + 1))])), (hpi, .inl (cP, n, .inl (fp)))] H := hP
            replace hD : va_D A [(h0, .inr (2, [v_base, v_text, .ref hpi, .int (nI (a + 1 + 1 + 1))])), (hpi, .inl (cP, n, .inl (fp)))] := hD
            refine lv_iload_n hx hb d_M_readNumber_47 rfl (lv_at hl 2 rfl) ?_
            refine lv_iload_n hx hb d_M_readNumber_48 rfl (lv_at hl 0 rfl) ?_
            refine lv_sipush (v := 128) hx hb d_M_readNumber_49 (by decide +kernel) ?_
            refine lv_irem hx hb d_M_readNumber_52 (by decide +kernel) ?_
            refine lv_topi (fun x_33 ex_33 => ?_)
            obtain rfl : x_33 = (nI (byv S (a + 1 + 1) % 128)) := by rw [ex_33]; exact (show nI (byv S (a + 1 + 1)) - nI (byv S (a + 1 + 1)) / nI 128 * nI 128 = nI (byv S (a + 1 + 1) % 128) from pk_rem (Nat.lt_trans (byv_lt _ _) (by decide)) (by decide) (by decide))
            clear ex_33
            refine lv_bipush (v := 7) hx hb d_M_readNumber_53 (by decide +kernel) ?_
            refine lv_iload_n hx hb d_M_readNumber_55 rfl (lv_at hl 1 rfl) ?_
            refine lv_imul hx hb d_M_readNumber_56 ?_
            refine lv_topi (fun x_34 ex_34 => ?_)
            obtain rfl : x_34 = 14 := ex_34.trans (by decide +kernel)
            clear ex_34
            refine lv_ishl hx hb d_M_readNumber_57 ?_
            refine lv_topi (fun x_35 ex_35 => ?_)
            obtain rfl : x_35 = (nI (byv S (a + 1 + 1) % 128 * 16384)) := by rw [ex_35]; exact sh_14 _ (Nat.mod_lt _ (by decide))
            clear ex_35
            refine lv_iadd hx hb d_M_readNumber_58 ?_
            refine lv_topi (fun x_36 ex_36 => ?_)
            obtain rfl : x_36 = (nI (byv S a % 128 + byv S (a + 1) % 128 * 128 + byv S (a + 1 + 1) % 128 * 16384)) := by rw [ex_36]; exact nI_add (byv S a % 128 + byv S (a + 1) % 128 * 128) (byv S (a + 1 + 1) % 128 * 16384)
            clear ex_36
            refine lv_istore_n (lv' := [(1, .int (nI (byv S a % 128 + byv S (a + 1) % 128 * 128 + byv S (a + 1 + 1) % 128 * 16384))), (3, .int (nI (byv S (a + 1 + 1)))), (2, .int 2), (0, .ref h0)]) hx hb d_M_readNumber_59 rfl hl (by decide) rfl (fun ls hl => ?_)
            refine lv_iload_n hx hb d_M_readNumber_60 rfl (lv_at hl 1 rfl) ?_
            refine lv_sipush (v := 128) hx hb d_M_readNumber_61 (by decide +kernel) ?_
            refine lv_icmp_ge (tgt := 69) hx hb d_M_readNumber_64 (by decide) (fun c_37 => ?_) (fun c_37 => ?_)
            · have hV_39 : ¬ byv S (a + 1 + 1) < 128 := (fun z => absurd (nI_lt z (by decide)) (Int32.not_lt.mpr c_37))
              refine lv_iinc (v := 3) (lv' := [(2, .int 3), (1, .int (nI (byv S a % 128 + byv S (a + 1) % 128 * 128 + byv S (a + 1 + 1) % 128 * 16384))), (3, .int (nI (byv S (a + 1 + 1)))), (0, .ref h0)]) hx hb d_M_readNumber_69 hl (k := 2) rfl (by decide +kernel) (by decide) rfl (fun ls hl => ?_)
              refine lv_goto (tgt := 4) hx hb d_M_readNumber_72 (by decide) ?_
              refine lv_iload_n hx hb d_M_readNumber_4 rfl (lv_at hl 0 rfl) ?_
              refine lv_iconst (v := 3) hx hb d_M_readNumber_5 (by decide) ?_
              refine lv_icmp_ge (tgt := 75) hx hb d_M_readNumber_6 (by decide) (fun _ => ?_) (fun h9 => absurd h9 (by decide +kernel))
              refine lv_iconst (v := (-1)) hx hb d_M_readNumber_75 (by decide) ?_
              have hP9 := hP.sub (ws' := [(h0, .inr (2, [v_base, v_text, .ref hpi, .int (nI (a + 1 + 1 + 1))])), (hpi, .inl (cP, n, .inl (fp)))]) [0, 1] rfl
              have hD9 := hD.sub (ws' := [(h0, .inr (2, [v_base, v_text, .ref hpi, .int (nI (a + 1 + 1 + 1))])), (hpi, .inl (cP, n, .inl (fp)))]) [0, 1] (by decide) rfl
              have hK9 := hK.sub (tys' := [(cP, .byte)]) [0] rfl
              exact W.iret (v := (-1)) hx hb hr (fun t ht hW => ⟨⟨(-1), (), rfl, (by rw [rd, if_neg (by omega), if_neg (by omega), if_neg (by omega), if_neg (by omega), if_neg (by omega), if_neg (by omega)]; rfl), (a + 1 + 1 + 1), (by rw [rd, if_neg (by omega), if_neg (by omega), if_neg (by omega), if_neg (by omega), if_neg (by omega), if_neg (by omega)]), by rw [ht]; exact hP9, va_K.moved hW.alike hK9, hD9⟩, hS.F ht⟩) hS.2.2 d_M_readNumber_76
            · have hV_38 : byv S (a + 1 + 1) < 128 := (by rcases Nat.lt_or_ge (byv S (a + 1 + 1)) 128 with z | z; exact z; exact absurd (show nI 128 ≤ nI (byv S (a + 1 + 1)) from nI_le z (Nat.lt_trans (byv_lt _ _) (by decide))) c_37)
              refine lv_iload_n hx hb d_M_readNumber_67 rfl (lv_at hl 0 rfl) ?_
              have hP9 := hP.sub (ws' := [(h0, .inr (2, [v_base, v_text, .ref hpi, .int (nI (a + 1 + 1 + 1))])), (hpi, .inl (cP, n, .inl (fp)))]) [0, 1] rfl
              have hD9 := hD.sub (ws' := [(h0, .inr (2, [v_base, v_text, .ref hpi, .int (nI (a + 1 + 1 + 1))])), (hpi, .inl (cP, n, .inl (fp)))]) [0, 1] (by decide) rfl
              have hK9 := hK.sub (tys' := [(cP, .byte)]) [0] rfl
              exact W.iret (v := (nI (byv S a % 128 + byv S (a + 1) % 128 * 128 + byv S (a + 1 + 1) % 128 * 16384))) hx hb hr (fun t ht hW => ⟨⟨(nI (byv S a % 128 + byv S (a + 1) % 128 * 128 + byv S (a + 1 + 1) % 128 * 16384)), (), rfl, (by rw [rd, if_neg (by omega), if_neg (by omega), if_neg (by omega), if_neg (by omega), if_neg (by omega), if_pos (by omega)]; rfl), (a + 1 + 1 + 1), (by rw [rd, if_neg (by omega), if_neg (by omega), if_neg (by omega), if_neg (by omega), if_neg (by omega), if_pos (by omega)]), by rw [ht]; exact hP9, va_K.moved hW.alike hK9, hD9⟩, hS.F ht⟩) hS.2.2 d_M_readNumber_68
          · have hA_28 : ¬ a + 1 + 1 < n := (fun z => c_27 ((nI_ltI (by omega) (by omega)).mpr z))
            refine lv_iconst (v := (-1)) hx hb d_M_readNumber_21 (by decide) ?_
            have hP9 := hP.sub (ws' := [(h0, .inr (2, [v_base, v_text, .ref hpi, .int (nI (a + 1 + 1))])), (hpi, .inl (cP, n, .inl (fp)))]) [0, 1] rfl
            have hD9 := hD.sub (ws' := [(h0, .inr (2, [v_base, v_text, .ref hpi, .int (nI (a + 1 + 1))])), (hpi, .inl (cP, n, .inl (fp)))]) [0, 1] (by decide) rfl
            have hK9 := hK.sub (tys' := [(cP, .byte)]) [0] rfl
            exact W.iret (v := (-1)) hx hb hr (fun t ht hW => ⟨⟨(-1), (), rfl, (by rw [rd, if_neg (by omega), if_neg (by omega), if_neg (by omega), if_neg (by omega), if_pos (by omega)]; rfl), (a + 1 + 1), (by rw [rd, if_neg (by omega), if_neg (by omega), if_neg (by omega), if_neg (by omega), if_pos (by omega)]), by rw [ht]; exact hP9, va_K.moved hW.alike hK9, hD9⟩, hS.F ht⟩) hS.2.2 d_M_readNumber_22
        · have hV_25 : byv S (a + 1) < 128 := (by rcases Nat.lt_or_ge (byv S (a + 1)) 128 with z | z; exact z; exact absurd (show nI 128 ≤ nI (byv S (a + 1)) from nI_le z (Nat.lt_trans (byv_lt _ _) (by decide))) c_24)
          refine lv_iload_n hx hb d_M_readNumber_67 rfl (lv_at hl 0 rfl) ?_
          have hP9 := hP.sub (ws' := [(h0, .inr (2, [v_base, v_text, .ref hpi, .int (nI (a + 1 + 1))])), (hpi, .inl (cP, n, .inl (fp)))]) [0, 1] rfl
          have hD9 := hD.sub (ws' := [(h0, .inr (2, [v_base, v_text, .ref hpi, .int (nI (a + 1 + 1))])), (hpi, .inl (cP, n, .inl (fp)))]) [0, 1] (by decide) rfl
          have hK9 := hK.sub (tys' := [(cP, .byte)]) [0] rfl
          exact W.iret (v := (nI (byv S a % 128 + byv S (a + 1) % 128 * 128))) hx hb hr (fun t ht hW => ⟨⟨(nI (byv S a % 128 + byv S (a + 1) % 128 * 128)), (), rfl, (by rw [rd, if_neg (by omega), if_neg (by omega), if_neg (by omega), if_pos (by omega)]; rfl), (a + 1 + 1), (by rw [rd, if_neg (by omega), if_neg (by omega), if_neg (by omega), if_pos (by omega)]), by rw [ht]; exact hP9, va_K.moved hW.alike hK9, hD9⟩, hS.F ht⟩) hS.2.2 d_M_readNumber_68
      · have hA_15 : ¬ a + 1 < n := (fun z => c_14 ((nI_ltI (by omega) (by omega)).mpr z))
        refine lv_iconst (v := (-1)) hx hb d_M_readNumber_21 (by decide) ?_
        have hP9 := hP.sub (ws' := [(h0, .inr (2, [v_base, v_text, .ref hpi, .int (nI (a + 1))])), (hpi, .inl (cP, n, .inl (fp)))]) [0, 1] rfl
        have hD9 := hD.sub (ws' := [(h0, .inr (2, [v_base, v_text, .ref hpi, .int (nI (a + 1))])), (hpi, .inl (cP, n, .inl (fp)))]) [0, 1] (by decide) rfl
        have hK9 := hK.sub (tys' := [(cP, .byte)]) [0] rfl
        exact W.iret (v := (-1)) hx hb hr (fun t ht hW => ⟨⟨(-1), (), rfl, (by rw [rd, if_neg (by omega), if_neg (by omega), if_pos (by omega)]; rfl), (a + 1), (by rw [rd, if_neg (by omega), if_neg (by omega), if_pos (by omega)]), by rw [ht]; exact hP9, va_K.moved hW.alike hK9, hD9⟩, hS.F ht⟩) hS.2.2 d_M_readNumber_22
    · have hV_12 : byv S a < 128 := (by rcases Nat.lt_or_ge (byv S a) 128 with z | z; exact z; exact absurd (show nI 128 ≤ nI (byv S a) from nI_le z (Nat.lt_trans (byv_lt _ _) (by decide))) c_11)
      refine lv_iload_n hx hb d_M_readNumber_67 rfl (lv_at hl 0 rfl) ?_
      have hP9 := hP.sub (ws' := [(h0, .inr (2, [v_base, v_text, .ref hpi, .int (nI (a + 1))])), (hpi, .inl (cP, n, .inl (fp)))]) [0, 1] rfl
      have hD9 := hD.sub (ws' := [(h0, .inr (2, [v_base, v_text, .ref hpi, .int (nI (a + 1))])), (hpi, .inl (cP, n, .inl (fp)))]) [0, 1] (by decide) rfl
      have hK9 := hK.sub (tys' := [(cP, .byte)]) [0] rfl
      exact W.iret (v := (nI (byv S a % 128))) hx hb hr (fun t ht hW => ⟨⟨(nI (byv S a % 128)), (), rfl, (by rw [rd, if_neg (by omega), if_pos (by omega)]; rfl), (a + 1), (by rw [rd, if_neg (by omega), if_pos (by omega)]), by rw [ht]; exact hP9, va_K.moved hW.alike hK9, hD9⟩, hS.F ht⟩) hS.2.2 d_M_readNumber_68
  · have hA_2 : ¬ a < n := (fun z => c_1 ((nI_ltI (by omega) (by omega)).mpr z))
    refine lv_iconst (v := (-1)) hx hb d_M_readNumber_21 (by decide) ?_
    have hP9 := hP.sub (ws' := [(h0, .inr (2, [v_base, v_text, .ref hpi, .int (nI (a))])), (hpi, .inl (cP, n, .inl (fp)))]) [0, 1] rfl
    have hD9 := hD.sub (ws' := [(h0, .inr (2, [v_base, v_text, .ref hpi, .int (nI (a))])), (hpi, .inl (cP, n, .inl (fp)))]) [0, 1] (by decide) rfl
    have hK9 := hK.sub (tys' := [(cP, .byte)]) [0] rfl
    exact W.iret (v := (-1)) hx hb hr (fun t ht hW => ⟨⟨(-1), (), rfl, (by rw [rd, if_pos (by omega)]; rfl), (a), (by rw [rd, if_pos (by omega)]), by rw [ht]; exact hP9, va_K.moved hW.alike hK9, hD9⟩, hS.F ht⟩) hS.2.2 d_M_readNumber_22
set_option maxHeartbeats 4000000 in
set_option maxRecDepth 100000 in
theorem o_number (l : Launch) (dC : Nat → ClassId) (dI : Nat → Nat → Nat) (sz : Nat) (h0 : Nat) (i_thrown : Int32) (i_down : Int32) (i_lasts : Int32) (v_buffer : Value) (i_size : Int32) (i_documents : Int32) (v_gone : Value) (v_first : Value) (v_many : Value) (v_lengths : Value) (v_authors : Value) (v_sums : Value) (v_made : Value) (i_madeSize : Int32) (v_base : Value) (i_baseSize : Int32) (v_text : Value) (i_textSize : Int32) (i_textSteps : Int32) (v_other : Value) (i_otherSize : Int32) (v_piece : Value) (i_pieceSize : Int32) (i_value : Int32) (hrow : Nat) (cW : ClassId) (fr : Nat → Int32) (S : List Int32) (ab : Nat) (en : Nat) (b0 : Nat) (a : Nat) (hsx : sx S b0 fr) (hab : ab = b0 + a) (hen : en = b0 + S.length) (ha : a ≤ S.length) : Met l y_O_number k_O_number ({ frames := 0, cells := 0, slots := 0, locals := 0 } : Room) (va_Pc [.ref h0] (pc_E (dC, dI) [(h0, .inr (7, [.int i_thrown, .int i_down, .int i_lasts, v_buffer, .int i_size, .int i_documents, v_gone, v_first, v_many, v_lengths, v_authors, v_sums, .ref hrow, v_made, .int i_madeSize, v_base, .int i_baseSize, v_text, .int i_textSize, .int i_textSteps, v_other, .int i_otherSize, v_piece, .int i_pieceSize, .int (nI ab), .int (nI en), .int i_value])), (hrow, .inl (cW, 16384, .inl (fr)))] [(cW, .byte)] sz)) (va_Qi (fun (r : Int32) (_ : Unit) => r = oB (rd S a).1) (fun (_ : Unit) t => ∃ (a2 : Nat) (vv : Int32), (a2 = b0 + (rd S a).2 ∧ ∀ v, (rd S a).1 = some v → vv = nI v) ∧ at_E (dC, dI) (va_A [(h0, .inr (7, [.int i_thrown, .int i_down, .int i_lasts, v_buffer, .int i_size, .int i_documents, v_gone, v_first, v_many, v_lengths, v_authors, v_sums, .ref hrow, v_made, .int i_madeSize, v_base, .int i_baseSize, v_text, .int i_textSize, .int i_textSteps, v_other, .int i_otherSize, v_piece, .int i_pieceSize, .int (nI ab), .int (nI en), .int i_value])), (hrow, .inl (cW, 16384, .inl (fr)))] sz) [(h0, .inr (7, [.int i_thrown, .int i_down, .int i_lasts, v_buffer, .int i_size, .int i_documents, v_gone, v_first, v_many, v_lengths, v_authors, v_sums, .ref hrow, v_made, .int i_madeSize, v_base, .int i_baseSize, v_text, .int i_textSize, .int i_textSteps, v_other, .int i_otherSize, v_piece, .int i_pieceSize, .int (nI a2), .int (nI en), .int vv])), (hrow, .inl (cW, 16384, .inl (fr)))] [(cW, .byte)] t) (va_A [(h0, .inr (7, [.int i_thrown, .int i_down, .int i_lasts, v_buffer, .int i_size, .int i_documents, v_gone, v_first, v_many, v_lengths, v_authors, v_sums, .ref hrow, v_made, .int i_madeSize, v_base, .int i_baseSize, v_text, .int i_textSize, .int i_textSteps, v_other, .int i_otherSize, v_piece, .int i_pieceSize, .int (nI ab), .int (nI en), .int i_value])), (hrow, .inl (cW, 16384, .inl (fr)))] sz)) 0 0 (va_A [(h0, .inr (7, [.int i_thrown, .int i_down, .int i_lasts, v_buffer, .int i_size, .int i_documents, v_gone, v_first, v_many, v_lengths, v_authors, v_sums, .ref hrow, v_made, .int i_madeSize, v_base, .int i_baseSize, v_text, .int i_textSize, .int i_textSteps, v_other, .int i_otherSize, v_piece, .int i_pieceSize, .int (nI ab), .int (nI en), .int i_value])), (hrow, .inl (cW, 16384, .inl (fr)))] sz) := by
  refine Met.ofW (cc := prog_9_method_17_code) (maxL := 3) (ret := (some .boolean)) (by decide) rfl ?_
  intro p e s m args below meth c s₁ B hml hv
  obtain ⟨rfl, hsz, hP, hK, hD0, hN⟩ := hv
  have hx := B.exec
  have hb := B.bytes
  have hr := B.returns
  have hts := atoms_spec (ws := k_O_number) B.pre
  have hw0 : ∀ w ∈ w0, w.before _ s = true := fun w h => hts w (List.mem_cons_of_mem _ h)
  have hown : s.vm.findClass R_O = some m.cls := findClass_of_methodNamed B.named
  have hlocks := B.notSynchronized
  subst hsz
  have hD := hD0.self (sz := s.heap.size)
  generalize hAe : va_A [(h0, .inr (7, [.int i_thrown, .int i_down, .int i_lasts, v_buffer, .int i_size, .int i_documents, v_gone, v_first, v_many, v_lengths, v_authors, v_sums, .ref hrow, v_made, .int i_madeSize, v_base, .int i_baseSize, v_text, .int i_textSize, .int i_textSteps, v_other, .int i_otherSize, v_piece, .int i_pieceSize, .int (nI ab), .int (nI en), .int i_value])), (hrow, .inl (cW, 16384, .inl (fr)))] s.heap.size = A at hD ⊢
  have hA : ∀ q : Nat, s.heap.size ≤ q → A q := fun q h => by rw [← hAe]; exact Or.inr h
  have hS : va_S A s.heap s.heap [] := va_S.rf
  have hP : va_P (dC, dI) vwCl [(h0, .inr (7, [.int i_thrown, .int i_down, .int i_lasts, v_buffer, .int i_size, .int i_documents, v_gone, v_first, v_many, v_lengths, v_authors, v_sums, .ref hrow, v_made, .int i_madeSize, v_base, .int i_baseSize, v_text, .int i_textSize, .int i_textSteps, v_other, .int i_otherSize, v_piece, .int i_pieceSize, .int (nI ab), .int (nI en), .int i_value])), (hrow, .inl (cW, 16384, .inl (fr)))] s.heap := hP
  have hl := lv_entry ([.ref h0]) (n := 3) (Nat.le_of_ble_eq_true rfl)
  rw [lg_entry_eq]
  generalize (lg_sl ([.ref h0]) ++ List.replicate (3 - (lg_sl ([.ref h0])).length) Slot.unset).toArray = ls at hl ⊢
  have hl : lv_has ls 3 [(0, .ref h0)] := hl
  have hl9 := hsx.2.2
  refine lv_aload_n hx hb d_O_number_0 rfl (lv_at hl 0 rfl) ?_
  refine lv_iconst (v := 0) hx hb d_O_number_1 (by decide) ?_
  refine va_put (D := (dC, dI)) (ci := 7) (v := .int 0) (ty := .int) (C := R_O) (T := F_O) (N := 27) hx hb hw0 in_O ft_O tk_O nk_O hown hK hP hD hS 0 rfl rfl 26 (by decide) (hw0 (.fieldLink R_O 100 "TextKeeperModel" "value" "I") (List.mem_of_getElem? (i := 179) rfl)) (fun _ h9 => h9) rfl (by decide +kernel) rfl rfl (Nat.le_of_ble_eq_true rfl) d_O_number_2 (fun H locs hP hD hS => ?_)
  replace hP : va_P (dC, dI) vwCl [(h0, .inr (7, [.int i_thrown, .int i_down, .int i_lasts, v_buffer, .int i_size, .int i_documents, v_gone, v_first, v_many, v_lengths, v_authors, v_sums, .ref hrow, v_made, .int i_madeSize, v_base, .int i_baseSize, v_text, .int i_textSize, .int i_textSteps, v_other, .int i_otherSize, v_piece, .int i_pieceSize, .int (nI ab), .int (nI en), .int 0])), (hrow, .inl (cW, 16384, .inl (fr)))] H := hP
  replace hD : va_D A [(h0, .inr (7, [.int i_thrown, .int i_down, .int i_lasts, v_buffer, .int i_size, .int i_documents, v_gone, v_first, v_many, v_lengths, v_authors, v_sums, .ref hrow, v_made, .int i_madeSize, v_base, .int i_baseSize, v_text, .int i_textSize, .int i_textSteps, v_other, .int i_otherSize, v_piece, .int i_pieceSize, .int (nI ab), .int (nI en), .int 0])), (hrow, .inl (cW, 16384, .inl (fr)))] := hD
  refine lv_iconst (v := 0) hx hb d_O_number_5 (by decide) ?_
  refine lv_istore_n (lv' := [(1, .int 0), (0, .ref h0)]) hx hb d_O_number_6 rfl hl (by decide) rfl (fun ls hl => ?_)
  refine lv_iload_n hx hb d_O_number_7 rfl (lv_at hl 0 rfl) ?_
  refine lv_iconst (v := 3) hx hb d_O_number_8 (by decide) ?_
  refine lv_icmp_ge (tgt := 82) hx hb d_O_number_9 (by decide) (fun h9 => absurd h9 (by decide +kernel)) (fun _ => ?_)
  refine lv_aload_n hx hb d_O_number_12 rfl (lv_at hl 1 rfl) ?_
  refine va_get (D := (dC, dI)) (ci := 7) (v := .int (nI ab)) (C := R_O) (T := F_O) (N := 27) hx hb hw0 in_O hown hK hP 0 rfl rfl 24 (by decide) (hw0 (.fieldLink R_O 103 "TextKeeperModel" "at" "I") (List.mem_of_getElem? (i := 180) rfl)) (fun _ h9 => h9) rfl d_O_number_13 ?_
  refine lv_aload_n hx hb d_O_number_16 rfl (lv_at hl 1 rfl) ?_
  refine va_get (D := (dC, dI)) (ci := 7) (v := .int (nI en)) (C := R_O) (T := F_O) (N := 27) hx hb hw0 in_O hown hK hP 0 rfl rfl 25 (by decide) (hw0 (.fieldLink R_O 106 "TextKeeperModel" "end" "I") (List.mem_of_getElem? (i := 181) rfl)) (fun _ h9 => h9) rfl d_O_number_17 ?_
  refine lv_icmp_ne (tgt := 25) hx hb d_O_number_20 (by decide) (fun c_1 => ?_) (fun c_1 => ?_)
  · have hA_3 : a < S.length := (by rcases Nat.lt_or_ge (a) S.length with z | z; exact z; exact absurd (show nI (ab) = nI en from congrArg nI (by omega)) c_1)
    refine lv_aload_n hx hb d_O_number_25 rfl (lv_at hl 1 rfl) ?_
    refine va_get (D := (dC, dI)) (ci := 7) (v := .ref hrow) (C := R_O) (T := F_O) (N := 27) hx hb hw0 in_O hown hK hP 0 rfl rfl 12 (by decide) (hw0 (.fieldLink R_O 38 "TextKeeperModel" "row" "[B") (List.mem_of_getElem? (i := 182) rfl)) (fun _ h9 => h9) rfl d_O_number_26 ?_
    refine lv_aload_n hx hb d_O_number_29 rfl (lv_at hl 1 rfl) ?_
    refine va_get (D := (dC, dI)) (ci := 7) (v := .int (nI ab)) (C := R_O) (T := F_O) (N := 27) hx hb hw0 in_O hown hK hP 0 rfl rfl 24 (by decide) (hw0 (.fieldLink R_O 103 "TextKeeperModel" "at" "I") (List.mem_of_getElem? (i := 180) rfl)) (fun _ h9 => h9) rfl d_O_number_30 ?_
    refine va_bald hx hb hK hP 1 0 rfl rfl (vp_in_nI (by omega) (by decide)) d_O_number_33 ?_
    refine lv_topi (fun x_4 ex_4 => ?_)
    refine lv_sipush (v := 255) hx hb d_O_number_34 (by decide +kernel) ?_
    refine lv_iand hx hb d_O_number_37 ?_
    refine lv_topi (fun x_5 ex_5 => ?_)
    obtain rfl : x_5 = (nI (byv S a)) := by rw [ex_5, ex_4]; exact ld_sx hsx (by omega) (by omega)
    clear ex_5
    refine lv_istore_n (lv' := [(2, .int (nI (byv S a))), (1, .int 0), (0, .ref h0)]) hx hb d_O_number_38 rfl hl (by decide) rfl (fun ls hl => ?_)
    refine lv_aload_n hx hb d_O_number_39 rfl (lv_at hl 2 rfl) ?_
    refine lv_dup hx hb d_O_number_40 rfl ?_
    refine va_get (D := (dC, dI)) (ci := 7) (v := .int (nI ab)) (C := R_O) (T := F_O) (N := 27) hx hb hw0 in_O hown hK hP 0 rfl rfl 24 (by decide) (hw0 (.fieldLink R_O 103 "TextKeeperModel" "at" "I") (List.mem_of_getElem? (i := 180) rfl)) (fun _ h9 => h9) rfl d_O_number_41 ?_
    refine lv_iconst (v := 1) hx hb d_O_number_44 (by decide) ?_
    refine lv_iadd hx hb d_O_number_45 ?_
    refine lv_topi (fun x_6 ex_6 => ?_)
    obtain rfl : x_6 = (nI (ab + 1)) := by rw [ex_6]; exact nI_1 (ab)
    clear ex_6
    refine va_put (D := (dC, dI)) (ci := 7) (v := .int (nI (ab + 1))) (ty := .int) (C := R_O) (T := F_O) (N := 27) hx hb hw0 in_O ft_O tk_O nk_O hown hK hP hD hS 0 rfl rfl 24 (by decide) (hw0 (.fieldLink R_O 103 "TextKeeperModel" "at" "I") (List.mem_of_getElem? (i := 180) rfl)) (fun _ h9 => h9) rfl (by decide +kernel) rfl rfl (Nat.le_of_ble_eq_true rfl) d_O_number_46 (fun H locs hP hD hS => ?_)
    replace hP : va_P (dC, dI) vwCl [(h0, .inr (7, [.int i_thrown, .int i_down, .int i_lasts, v_buffer, .int i_size, .int i_documents, v_gone, v_first, v_many, v_lengths, v_authors, v_sums, .ref hrow, v_made, .int i_madeSize, v_base, .int i_baseSize, v_text, .int i_textSize, .int i_textSteps, v_other, .int i_otherSize, v_piece, .int i_pieceSize, .int (nI (ab + 1)), .int (nI en), .int 0])), (hrow, .inl (cW, 16384, .inl (fr)))] H := hP
    replace hD : va_D A [(h0, .inr (7, [.int i_thrown, .int i_down, .int i_lasts, v_buffer, .int i_size, .int i_documents, v_gone, v_first, v_many, v_lengths, v_authors, v_sums, .ref hrow, v_made, .int i_madeSize, v_base, .int i_baseSize, v_text, .int i_textSize, .int i_textSteps, v_other, .int i_otherSize, v_piece, .int i_pieceSize, .int (nI (ab + 1)), .int (nI en), .int 0])), (hrow, .inl (cW, 16384, .inl (fr)))] := hD
    refine lv_aload_n hx hb d_O_number_49 rfl (lv_at hl 2 rfl) ?_
    refine lv_dup hx hb d_O_number_50 rfl ?_
    refine va_get (D := (dC, dI)) (ci := 7) (v := .int 0) (C := R_O) (T := F_O) (N := 27) hx hb hw0 in_O hown hK hP 0 rfl rfl 26 (by decide) (hw0 (.fieldLink R_O 100 "TextKeeperModel" "value" "I") (List.mem_of_getElem? (i := 179) rfl)) (fun _ h9 => h9) rfl d_O_number_51 ?_
    refine lv_iload_n hx hb d_O_number_54 rfl (lv_at hl 0 rfl) ?_
    refine lv_bipush (v := 127) hx hb d_O_number_55 (by decide +kernel) ?_
    refine lv_iand hx hb d_O_number_57 ?_
    refine lv_topi (fun x_7 ex_7 => ?_)
    obtain rfl : x_7 = (nI (byv S a % 128)) := by rw [ex_7]; exact an_127 _ (byv_lt _ _)
    clear ex_7
    refine lv_bipush (v := 7) hx hb d_O_number_58 (by decide +kernel) ?_
    refine lv_iload_n hx hb d_O_number_60 rfl (lv_at hl 1 rfl) ?_
    refine lv_imul hx hb d_O_number_61 ?_
    refine lv_topi (fun x_8 ex_8 => ?_)
    obtain rfl : x_8 = 0 := ex_8.trans (by decide +kernel)
    clear ex_8
    refine lv_ishl hx hb d_O_number_62 ?_
    refine lv_topi (fun x_9 ex_9 => ?_)
    obtain rfl : x_9 = (nI (byv S a % 128)) := by rw [ex_9]; exact sh_0 _ (Nat.mod_lt _ (by decide))
    clear ex_9
    refine lv_iadd hx hb d_O_number_63 ?_
    refine lv_topi (fun x_10 ex_10 => ?_)
    obtain rfl : x_10 = (nI (byv S a % 128)) := by rw [ex_10]; exact Int32.zero_add _
    clear ex_10
    refine va_put (D := (dC, dI)) (ci := 7) (v := .int (nI (byv S a % 128))) (ty := .int) (C := R_O) (T := F_O) (N := 27) hx hb hw0 in_O ft_O tk_O nk_O hown hK hP hD hS 0 rfl rfl 26 (by decide) (hw0 (.fieldLink R_O 100 "TextKeeperModel" "value" "I") (List.mem_of_getElem? (i := 179) rfl)) (fun _ h9 => h9) rfl (by decide +kernel) rfl rfl (Nat.le_of_ble_eq_true rfl) d_O_number_64 (fun H locs hP hD hS => ?_)
    replace hP : va_P (dC, dI) vwCl [(h0, .inr (7, [.int i_thrown, .int i_down, .int i_lasts, v_buffer, .int i_size, .int i_documents, v_gone, v_first, v_many, v_lengths, v_authors, v_sums, .ref hrow, v_made, .int i_madeSize, v_base, .int i_baseSize, v_text, .int i_textSize, .int i_textSteps, v_other, .int i_otherSize, v_piece, .int i_pieceSize, .int (nI (ab + 1)), .int (nI en), .int (nI (byv S a % 128))])), (hrow, .inl (cW, 16384, .inl (fr)))] H := hP
    replace hD : va_D A [(h0, .inr (7, [.int i_thrown, .int i_down, .int i_lasts, v_buffer, .int i_size, .int i_documents, v_gone, v_first, v_many, v_lengths, v_authors, v_sums, .ref hrow, v_made, .int i_madeSize, v_base, .int i_baseSize, v_text, .int i_textSize, .int i_textSteps, v_other, .int i_otherSize, v_piece, .int i_pieceSize, .int (nI (ab + 1)), .int (nI en), .int (nI (byv S a % 128))])), (hrow, .inl (cW, 16384, .inl (fr)))] := hD
    refine lv_iload_n hx hb d_O_number_67 rfl (lv_at hl 0 rfl) ?_
    refine lv_sipush (v := 128) hx hb d_O_number_68 (by decide +kernel) ?_
    refine lv_icmp_ge (tgt := 76) hx hb d_O_number_71 (by decide) (fun c_11 => ?_) (fun c_11 => ?_)
    · have hV_13 : ¬ byv S a < 128 := (fun z => absurd (nI_lt z (by decide)) (Int32.not_lt.mpr c_11))
      refine lv_iinc (v := 1) (lv' := [(1, .int 1), (2, .int (nI (byv S a))), (0, .ref h0)]) hx hb d_O_number_76 hl (k := 1) rfl (by decide +kernel) (by decide) rfl (fun ls hl => ?_)
      refine lv_goto (tgt := 7) hx hb d_O_number_79 (by decide) ?_
      refine lv_iload_n hx hb d_O_number_7 rfl (lv_at hl 0 rfl) ?_
      refine lv_iconst (v := 3) hx hb d_O_number_8 (by decide) ?_
      refine lv_icmp_ge (tgt := 82) hx hb d_O_number_9 (by decide) (fun h9 => absurd h9 (by decide +kernel)) (fun _ => ?_)
      refine lv_aload_n hx hb d_O_number_12 rfl (lv_at hl 2 rfl) ?_
      refine va_get (D := (dC, dI)) (ci := 7) (v := .int (nI (ab + 1))) (C := R_O) (T := F_O) (N := 27) hx hb hw0 in_O hown hK hP 0 rfl rfl 24 (by decide) (hw0 (.fieldLink R_O 103 "TextKeeperModel" "at" "I") (List.mem_of_getElem? (i := 180) rfl)) (fun _ h9 => h9) rfl d_O_number_13 ?_
      refine lv_aload_n hx hb d_O_number_16 rfl (lv_at hl 2 rfl) ?_
      refine va_get (D := (dC, dI)) (ci := 7) (v := .int (nI en)) (C := R_O) (T := F_O) (N := 27) hx hb hw0 in_O hown hK hP 0 rfl rfl 25 (by decide) (hw0 (.fieldLink R_O 106 "TextKeeperModel" "end" "I") (List.mem_of_getElem? (i := 181) rfl)) (fun _ h9 => h9) rfl d_O_number_17 ?_
      refine lv_icmp_ne (tgt := 25) hx hb d_O_number_20 (by decide) (fun c_14 => ?_) (fun c_14 => ?_)
      · have hA_16 : a + 1 < S.length := (by rcases Nat.lt_or_ge (a + 1) S.length with z | z; exact z; exact absurd (show nI (ab + 1) = nI en from congrArg nI (by omega)) c_14)
        refine lv_aload_n hx hb d_O_number_25 rfl (lv_at hl 2 rfl) ?_
        refine va_get (D := (dC, dI)) (ci := 7) (v := .ref hrow) (C := R_O) (T := F_O) (N := 27) hx hb hw0 in_O hown hK hP 0 rfl rfl 12 (by decide) (hw0 (.fieldLink R_O 38 "TextKeeperModel" "row" "[B") (List.mem_of_getElem? (i := 182) rfl)) (fun _ h9 => h9) rfl d_O_number_26 ?_
        refine lv_aload_n hx hb d_O_number_29 rfl (lv_at hl 2 rfl) ?_
        refine va_get (D := (dC, dI)) (ci := 7) (v := .int (nI (ab + 1))) (C := R_O) (T := F_O) (N := 27) hx hb hw0 in_O hown hK hP 0 rfl rfl 24 (by decide) (hw0 (.fieldLink R_O 103 "TextKeeperModel" "at" "I") (List.mem_of_getElem? (i := 180) rfl)) (fun _ h9 => h9) rfl d_O_number_30 ?_
        refine va_bald hx hb hK hP 1 0 rfl rfl (vp_in_nI (by omega) (by decide)) d_O_number_33 ?_
        refine lv_topi (fun x_17 ex_17 => ?_)
        refine lv_sipush (v := 255) hx hb d_O_number_34 (by decide +kernel) ?_
        refine lv_iand hx hb d_O_number_37 ?_
        refine lv_topi (fun x_18 ex_18 => ?_)
        obtain rfl : x_18 = (nI (byv S (a + 1))) := by rw [ex_18, ex_17]; exact ld_sx hsx (by omega) (by omega)
        clear ex_18
        refine lv_istore_n (lv' := [(2, .int (nI (byv S (a + 1)))), (1, .int 1), (0, .ref h0)]) hx hb d_O_number_38 rfl hl (by decide) rfl (fun ls hl => ?_)
        refine lv_aload_n hx hb d_O_number_39 rfl (lv_at hl 2 rfl) ?_
        refine lv_dup hx hb d_O_number_40 rfl ?_
        refine va_get (D := (dC, dI)) (ci := 7) (v := .int (nI (ab + 1))) (C := R_O) (T := F_O) (N := 27) hx hb hw0 in_O hown hK hP 0 rfl rfl 24 (by decide) (hw0 (.fieldLink R_O 103 "TextKeeperModel" "at" "I") (List.mem_of_getElem? (i := 180) rfl)) (fun _ h9 => h9) rfl d_O_number_41 ?_
        refine lv_iconst (v := 1) hx hb d_O_number_44 (by decide) ?_
        refine lv_iadd hx hb d_O_number_45 ?_
        refine lv_topi (fun x_19 ex_19 => ?_)
        obtain rfl : x_19 = (nI (ab + 1 + 1)) := by rw [ex_19]; exact nI_1 (ab + 1)
        clear ex_19
        refine va_put (D := (dC, dI)) (ci := 7) (v := .int (nI (ab + 1 + 1))) (ty := .int) (C := R_O) (T := F_O) (N := 27) hx hb hw0 in_O ft_O tk_O nk_O hown hK hP hD hS 0 rfl rfl 24 (by decide) (hw0 (.fieldLink R_O 103 "TextKeeperModel" "at" "I") (List.mem_of_getElem? (i := 180) rfl)) (fun _ h9 => h9) rfl (by decide +kernel) rfl rfl (Nat.le_of_ble_eq_true rfl) d_O_number_46 (fun H locs hP hD hS => ?_)
        replace hP : va_P (dC, dI) vwCl [(h0, .inr (7, [.int i_thrown, .int i_down, .int i_lasts, v_buffer, .int i_size, .int i_documents, v_gone, v_first, v_many, v_lengths, v_authors, v_sums, .ref hrow, v_made, .int i_madeSize, v_base, .int i_baseSize, v_text, .int i_textSize, .int i_textSteps, v_other, .int i_otherSize, v_piece, .int i_pieceSize, .int (nI (ab + 1 + 1)), .int (nI en), .int (nI (byv S a % 128))])), (hrow, .inl (cW, 16384, .inl (fr)))] H := hP
        replace hD : va_D A [(h0, .inr (7, [.int i_thrown, .int i_down, .int i_lasts, v_buffer, .int i_size, .int i_documents, v_gone, v_first, v_many, v_lengths, v_authors, v_sums, .ref hrow, v_made, .int i_madeSize, v_base, .int i_baseSize, v_text, .int i_textSize, .int i_textSteps, v_other, .int i_otherSize, v_piece, .int i_pieceSize, .int (nI (ab + 1 + 1)), .int (nI en), .int (nI (byv S a % 128))])), (hrow, .inl (cW, 16384, .inl (fr)))] := hD
        refine lv_aload_n hx hb d_O_number_49 rfl (lv_at hl 2 rfl) ?_
        refine lv_dup hx hb d_O_number_50 rfl ?_
        refine va_get (D := (dC, dI)) (ci := 7) (v := .int (nI (byv S a % 128))) (C := R_O) (T := F_O) (N := 27) hx hb hw0 in_O hown hK hP 0 rfl rfl 26 (by decide) (hw0 (.fieldLink R_O 100 "TextKeeperModel" "value" "I") (List.mem_of_getElem? (i := 179) rfl)) (fun _ h9 => h9) rfl d_O_number_51 ?_
        refine lv_iload_n hx hb d_O_number_54 rfl (lv_at hl 0 rfl) ?_
        refine lv_bipush (v := 127) hx hb d_O_number_55 (by decide +kernel) ?_
        refine lv_iand hx hb d_O_number_57 ?_
        refine lv_topi (fun x_20 ex_20 => ?_)
        obtain rfl : x_20 = (nI (byv S (a + 1) % 128)) := by rw [ex_20]; exact an_127 _ (byv_lt _ _)
        clear ex_20
        refine lv_bipush (v := 7) hx hb d_O_number_58 (by decide +kernel) ?_
        refine lv_iload_n hx hb d_O_number_60 rfl (lv_at hl 1 rfl) ?_
        refine lv_imul hx hb d_O_number_61 ?_
        refine lv_topi (fun x_21 ex_21 => ?_)
        obtain rfl : x_21 = 7 := ex_21.trans (by decide +kernel)
        clear ex_21
        refine lv_ishl hx hb d_O_number_62 ?_
        refine lv_topi (fun x_22 ex_22 => ?_)
        obtain rfl : x_22 = (nI (byv S (a + 1) % 128 * 128)) := by rw [ex_22]; exact sh_7 _ (Nat.mod_lt _ (by decide))
        clear ex_22
        refine lv_iadd hx hb d_O_number_63 ?_
        refine lv_topi (fun x_23 ex_23 => ?_)
        obtain rfl : x_23 = (nI (byv S a % 128 + byv S (a + 1) % 128 * 128)) := by rw [ex_23]; exact nI_add (byv S a % 128) (byv S (a + 1) % 128 * 128)
        clear ex_23
        refine va_put (D := (dC, dI)) (ci := 7) (v := .int (nI (byv S a % 128 + byv S (a + 1) % 128 * 128))) (ty := .int) (C := R_O) (T := F_O) (N := 27) hx hb hw0 in_O ft_O tk_O nk_O hown hK hP hD hS 0 rfl rfl 26 (by decide) (hw0 (.fieldLink R_O 100 "TextKeeperModel" "value" "I") (List.mem_of_getElem? (i := 179) rfl)) (fun _ h9 => h9) rfl (by decide +kernel) rfl rfl (Nat.le_of_ble_eq_true rfl) d_O_number_64 (fun H locs hP hD hS => ?_)
        replace hP : va_P (dC, dI) vwCl [(h0, .inr (7, [.int i_thrown, .int i_down, .int i_lasts, v_buffer, .int i_size, .int i_documents, v_gone, v_first, v_many, v_lengths, v_authors, v_sums, .ref hrow, v_made, .int i_madeSize, v_base, .int i_baseSize, v_text, .int i_textSize, .int i_textSteps, v_other, .int i_otherSize, v_piece, .int i_pieceSize, .int (nI (ab + 1 + 1)), .int (nI en), .int (nI (byv S a % 128 + byv S (a + 1) % 128 * 128))])), (hrow, .inl (cW, 16384, .inl (fr)))] H := hP
        replace hD : va_D A [(h0, .inr (7, [.int i_thrown, .int i_down, .int i_lasts, v_buffer, .int i_size, .int i_documents, v_gone, v_first, v_many, v_lengths, v_authors, v_sums, .ref hrow, v_made, .int i_madeSize, v_base, .int i_baseSize, v_text, .int i_textSize, .int i_textSteps, v_other, .int i_otherSize, v_piece, .int i_pieceSize, .int (nI (ab + 1 + 1)), .int (nI en), .int (nI (byv S a % 128 + byv S (a + 1) % 128 * 128))])), (hrow, .inl (cW, 16384, .inl (fr)))] := hD
        refine lv_iload_n hx hb d_O_number_67 rfl (lv_at hl 0 rfl) ?_
        refine lv_sipush (v := 128) hx hb d_O_number_68 (by decide +kernel) ?_
        refine lv_icmp_ge (tgt := 76) hx hb d_O_number_71 (by decide) (fun c_24 => ?_) (fun c_24 => ?_)
        · have hV_26 : ¬ byv S (a + 1) < 128 := (fun z => absurd (nI_lt z (by decide)) (Int32.not_lt.mpr c_24))
          refine lv_iinc (v := 2) (lv' := [(1, .int 2), (2, .int (nI (byv S (a + 1)))), (0, .ref h0)]) hx hb d_O_number_76 hl (k := 1) rfl (by decide +kernel) (by decide) rfl (fun ls hl => ?_)
          refine lv_goto (tgt := 7) hx hb d_O_number_79 (by decide) ?_
          refine lv_iload_n hx hb d_O_number_7 rfl (lv_at hl 0 rfl) ?_
          refine lv_iconst (v := 3) hx hb d_O_number_8 (by decide) ?_
          refine lv_icmp_ge (tgt := 82) hx hb d_O_number_9 (by decide) (fun h9 => absurd h9 (by decide +kernel)) (fun _ => ?_)
          refine lv_aload_n hx hb d_O_number_12 rfl (lv_at hl 2 rfl) ?_
          refine va_get (D := (dC, dI)) (ci := 7) (v := .int (nI (ab + 1 + 1))) (C := R_O) (T := F_O) (N := 27) hx hb hw0 in_O hown hK hP 0 rfl rfl 24 (by decide) (hw0 (.fieldLink R_O 103 "TextKeeperModel" "at" "I") (List.mem_of_getElem? (i := 180) rfl)) (fun _ h9 => h9) rfl d_O_number_13 ?_
          refine lv_aload_n hx hb d_O_number_16 rfl (lv_at hl 2 rfl) ?_
          refine va_get (D := (dC, dI)) (ci := 7) (v := .int (nI en)) (C := R_O) (T := F_O) (N := 27) hx hb hw0 in_O hown hK hP 0 rfl rfl 25 (by decide) (hw0 (.fieldLink R_O 106 "TextKeeperModel" "end" "I") (List.mem_of_getElem? (i := 181) rfl)) (fun _ h9 => h9) rfl d_O_number_17 ?_
          refine lv_icmp_ne (tgt := 25) hx hb d_O_number_20 (by decide) (fun c_27 => ?_) (fun c_27 => ?_)
          · have hA_29 : a + 1 + 1 < S.length := (by rcases Nat.lt_or_ge (a + 1 + 1) S.length with z | z; exact z; exact absurd (show nI (ab + 1 + 1) = nI en from congrArg nI (by omega)) c_27)
            refine lv_aload_n hx hb d_O_number_25 rfl (lv_at hl 2 rfl) ?_
            refine va_get (D := (dC, dI)) (ci := 7) (v := .ref hrow) (C := R_O) (T := F_O) (N := 27) hx hb hw0 in_O hown hK hP 0 rfl rfl 12 (by decide) (hw0 (.fieldLink R_O 38 "TextKeeperModel" "row" "[B") (List.mem_of_getElem? (i := 182) rfl)) (fun _ h9 => h9) rfl d_O_number_26 ?_
            refine lv_aload_n hx hb d_O_number_29 rfl (lv_at hl 2 rfl) ?_
            refine va_get (D := (dC, dI)) (ci := 7) (v := .int (nI (ab + 1 + 1))) (C := R_O) (T := F_O) (N := 27) hx hb hw0 in_O hown hK hP 0 rfl rfl 24 (by decide) (hw0 (.fieldLink R_O 103 "TextKeeperModel" "at" "I") (List.mem_of_getElem? (i := 180) rfl)) (fun _ h9 => h9) rfl d_O_number_30 ?_
            refine va_bald hx hb hK hP 1 0 rfl rfl (vp_in_nI (by omega) (by decide)) d_O_number_33 ?_
            refine lv_topi (fun x_30 ex_30 => ?_)
            refine lv_sipush (v := 255) hx hb d_O_number_34 (by decide +kernel) ?_
            refine lv_iand hx hb d_O_number_37 ?_
            refine lv_topi (fun x_31 ex_31 => ?_)
            obtain rfl : x_31 = (nI (byv S (a + 1 + 1))) := by rw [ex_31, ex_30]; exact ld_sx hsx (by omega) (by omega)
            clear ex_31
            refine lv_istore_n (lv' := [(2, .int (nI (byv S (a + 1 + 1)))), (1, .int 2), (0, .ref h0)]) hx hb d_O_number_38 rfl hl (by decide) rfl (fun ls hl => ?_)
            refine lv_aload_n hx hb d_O_number_39 rfl (lv_at hl 2 rfl) ?_
            refine lv_dup hx hb d_O_number_40 rfl ?_
            refine va_get (D := (dC, dI)) (ci := 7) (v := .int (nI (ab + 1 + 1))) (C := R_O) (T := F_O) (N := 27) hx hb hw0 in_O hown hK hP 0 rfl rfl 24 (by decide) (hw0 (.fieldLink R_O 103 "TextKeeperModel" "at" "I") (List.mem_of_getElem? (i := 180) rfl)) (fun _ h9 => h9) rfl d_O_number_41 ?_
            refine lv_iconst (v := 1) hx hb d_O_number_44 (by decide) ?_
            refine lv_iadd hx hb d_O_number_45 ?_
            refine lv_topi (fun x_32 ex_32 => ?_)
            obtain rfl : x_32 = (nI (ab + 1 + 1 + 1)) := by rw [ex_32]; exact nI_1 (ab + 1 + 1)
            clear ex_32
            refine va_put (D := (dC, dI)) (ci := 7) (v := .int (nI (ab + 1 + 1 + 1))) (ty := .int) (C := R_O) (T := F_O) (N := 27) hx hb hw0 in_O ft_O tk_O nk_O hown hK hP hD hS 0 rfl rfl 24 (by decide) (hw0 (.fieldLink R_O 103 "TextKeeperModel" "at" "I") (List.mem_of_getElem? (i := 180) rfl)) (fun _ h9 => h9) rfl (by decide +kernel) rfl rfl (Nat.le_of_ble_eq_true rfl) d_O_number_46 (fun H locs hP hD hS => ?_)
            replace hP : va_P (dC, dI) vwCl [(h0, .inr (7, [.int i_thrown, .int i_down, .int i_lasts, v_buffer, .int i_size, .int i_documents, v_gone, v_first, v_many, v_lengths, v_authors, v_sums, .ref hrow, v_made, .int i_madeSize, v_base, .int i_baseSize, v_text, .int i_textSize, .int i_textSteps, v_other, .int i_otherSize, v_piece, .int i_pieceSize, .int (nI (ab + 1 + 1 + 1)), .int (nI en), .int (nI (byv S a % 128 + byv S (a + 1) % 128 * 128))])), (hrow, .inl (cW, 16384, .inl (fr)))] H := hP
            replace hD : va_D A [(h0, .inr (7, [.int i_thrown, .int i_down, .int i_lasts, v_buffer, .int i_size, .int i_documents, v_gone, v_first, v_many, v_lengths, v_authors, v_sums, .ref hrow, v_made, .int i_madeSize, v_base, .int i_baseSize, v_text, .int i_textSize, .int i_textSteps, v_other, .int i_otherSize, v_piece, .int i_pieceSize, .int (nI (ab + 1 + 1 + 1)), .int (nI en), .int (nI (byv S a % 128 + byv S (a + 1) % 128 * 128))])), (hrow, .inl (cW, 16384, .inl (fr)))] := hD
            refine lv_aload_n hx hb d_O_number_49 rfl (lv_at hl 2 rfl) ?_
            refine lv_dup hx hb d_O_number_50 rfl ?_
            refine va_get (D := (dC, dI)) (ci := 7) (v := .int (nI (byv S a % 128 + byv S (a + 1) % 128 * 128))) (C := R_O) (T := F_O) (N := 27) hx hb hw0 in_O hown hK hP 0 rfl rfl 26 (by decide) (hw0 (.fieldLink R_O 100 "TextKeeperModel" "value" "I") (List.mem_of_getElem? (i := 179) rfl)) (fun _ h9 => h9) rfl d_O_number_51 ?_
            refine lv_iload_n hx hb d_O_number_54 rfl (lv_at hl 0 rfl) ?_
            refine lv_bipush (v := 127) hx hb d_O_number_55 (by decide +kernel) ?_
            refine lv_iand hx hb d_O_number_57 ?_
            refine lv_topi (fun x_33 ex_33 => ?_)
            obtain rfl : x_33 = (nI (byv S (a + 1 + 1) % 128)) := by rw [ex_33]; exact an_127 _ (byv_lt _ _)
            clear ex_33
            refine lv_bipush (v := 7) hx hb d_O_number_58 (by decide +kernel) ?_
            refine lv_iload_n hx hb d_O_number_60 rfl (lv_at hl 1 rfl) ?_
            refine lv_imul hx hb d_O_number_61 ?_
            refine lv_topi (fun x_34 ex_34 => ?_)
            obtain rfl : x_34 = 14 := ex_34.trans (by decide +kernel)
            clear ex_34
            refine lv_ishl hx hb d_O_number_62 ?_
            refine lv_topi (fun x_35 ex_35 => ?_)
            obtain rfl : x_35 = (nI (byv S (a + 1 + 1) % 128 * 16384)) := by rw [ex_35]; exact sh_14 _ (Nat.mod_lt _ (by decide))
            clear ex_35
            refine lv_iadd hx hb d_O_number_63 ?_
            refine lv_topi (fun x_36 ex_36 => ?_)
            obtain rfl : x_36 = (nI (byv S a % 128 + byv S (a + 1) % 128 * 128 + byv S (a + 1 + 1) % 128 * 16384)) := by rw [ex_36]; exact nI_add (byv S a % 128 + byv S (a + 1) % 128 * 128) (byv S (a + 1 + 1) % 128 * 16384)
            clear ex_36
            refine va_put (D := (dC, dI)) (ci := 7) (v := .int (nI (byv S a % 128 + byv S (a + 1) % 128 * 128 + byv S (a + 1 + 1) % 128 * 16384))) (ty := .int) (C := R_O) (T := F_O) (N := 27) hx hb hw0 in_O ft_O tk_O nk_O hown hK hP hD hS 0 rfl rfl 26 (by decide) (hw0 (.fieldLink R_O 100 "TextKeeperModel" "value" "I") (List.mem_of_getElem? (i := 179) rfl)) (fun _ h9 => h9) rfl (by decide +kernel) rfl rfl (Nat.le_of_ble_eq_true rfl) d_O_number_64 (fun H locs hP hD hS => ?_)
            replace hP : va_P (dC, dI) vwCl [(h0, .inr (7, [.int i_thrown, .int i_down, .int i_lasts, v_buffer, .int i_size, .int i_documents, v_gone, v_first, v_many, v_lengths, v_authors, v_sums, .ref hrow, v_made, .int i_madeSize, v_base, .int i_baseSize, v_text, .int i_textSize, .int i_textSteps, v_other, .int i_otherSize, v_piece, .int i_pieceSize, .int (nI (ab + 1 + 1 + 1)), .int (nI en), .int (nI (byv S a % 128 + byv S (a + 1) % 128 * 128 + byv S (a + 1 + 1) % 128 * 16384))])), (hrow, .inl (cW, 16384, .inl (fr)))] H := hP
            replace hD : va_D A [(h0, .inr (7, [.int i_thrown, .int i_down, .int i_lasts, v_buffer, .int i_size, .int i_documents, v_gone, v_first, v_many, v_lengths, v_authors, v_sums, .ref hrow, v_made, .int i_madeSize, v_base, .int i_baseSize, v_text, .int i_textSize, .int i_textSteps, v_other, .int i_otherSize, v_piece, .int i_pieceSize, .int (nI (ab + 1 + 1 + 1)), .int (nI en), .int (nI (byv S a % 128 + byv S (a + 1) % 128 * 128 + byv S (a + 1 + 1) % 128 * 16384))])), (hrow, .inl (cW, 16384, .inl (fr)))] := hD
            refine lv_iload_n hx hb d_O_number_67 rfl (lv_at hl 0 rfl) ?_
            refine lv_sipush (v := 128) hx hb d_O_number_68 (by decide +kernel) ?_
            refine lv_icmp_ge (tgt := 76) hx hb d_O_number_71 (by decide) (fun c_37 => ?_) (fun c_37 => ?_)
            · have hV_39 : ¬ byv S (a + 1 + 1) < 128 := (fun z => absurd (nI_lt z (by decide)) (Int32.not_lt.mpr c_37))
              refine lv_iinc (v := 3) (lv' := [(1, .int 3), (2, .int (nI (byv S (a + 1 + 1)))), (0, .ref h0)]) hx hb d_O_number_76 hl (k := 1) rfl (by decide +kernel) (by decide) rfl (fun ls hl => ?_)
              refine lv_goto (tgt := 7) hx hb d_O_number_79 (by decide) ?_
              refine lv_iload_n hx hb d_O_number_7 rfl (lv_at hl 0 rfl) ?_
              refine lv_iconst (v := 3) hx hb d_O_number_8 (by decide) ?_
              refine lv_icmp_ge (tgt := 82) hx hb d_O_number_9 (by decide) (fun _ => ?_) (fun h9 => absurd h9 (by decide +kernel))
              refine lv_iconst (v := 0) hx hb d_O_number_82 (by decide) ?_
              have hP9 := hP.sub (ws' := [(h0, .inr (7, [.int i_thrown, .int i_down, .int i_lasts, v_buffer, .int i_size, .int i_documents, v_gone, v_first, v_many, v_lengths, v_authors, v_sums, .ref hrow, v_made, .int i_madeSize, v_base, .int i_baseSize, v_text, .int i_textSize, .int i_textSteps, v_other, .int i_otherSize, v_piece, .int i_pieceSize, .int (nI (ab + 1 + 1 + 1)), .int (nI en), .int (nI (byv S a % 128 + byv S (a + 1) % 128 * 128 + byv S (a + 1 + 1) % 128 * 16384))])), (hrow, .inl (cW, 16384, .inl (fr)))]) [0, 1] rfl
              have hD9 := hD.sub (ws' := [(h0, .inr (7, [.int i_thrown, .int i_down, .int i_lasts, v_buffer, .int i_size, .int i_documents, v_gone, v_first, v_many, v_lengths, v_authors, v_sums, .ref hrow, v_made, .int i_madeSize, v_base, .int i_baseSize, v_text, .int i_textSize, .int i_textSteps, v_other, .int i_otherSize, v_piece, .int i_pieceSize, .int (nI (ab + 1 + 1 + 1)), .int (nI en), .int (nI (byv S a % 128 + byv S (a + 1) % 128 * 128 + byv S (a + 1 + 1) % 128 * 16384))])), (hrow, .inl (cW, 16384, .inl (fr)))]) [0, 1] (by decide) rfl
              have hK9 := hK.sub (tys' := [(cW, .byte)]) [0] rfl
              exact W.zret (v := 0) (ty := .boolean) hx hb hr rfl (fun t ht hW => ⟨⟨0, (), rfl, (by rw [rd, if_neg (by omega), if_neg (by omega), if_neg (by omega), if_neg (by omega), if_neg (by omega), if_neg (by omega)]; rfl), (ab + 1 + 1 + 1), (nI (byv S a % 128 + byv S (a + 1) % 128 * 128 + byv S (a + 1 + 1) % 128 * 16384)), (by rw [rd, if_neg (by omega), if_neg (by omega), if_neg (by omega), if_neg (by omega), if_neg (by omega), if_neg (by omega)]; exact ⟨(by simp only; omega), fun v h => by cases h <;> rfl⟩), by rw [ht]; exact hP9, va_K.moved hW.alike hK9, hD9⟩, hS.F ht⟩) hS.2.2 d_O_number_83
            · have hV_38 : byv S (a + 1 + 1) < 128 := (by rcases Nat.lt_or_ge (byv S (a + 1 + 1)) 128 with z | z; exact z; exact absurd (show nI 128 ≤ nI (byv S (a + 1 + 1)) from nI_le z (Nat.lt_trans (byv_lt _ _) (by decide))) c_37)
              refine lv_iconst (v := 1) hx hb d_O_number_74 (by decide) ?_
              have hP9 := hP.sub (ws' := [(h0, .inr (7, [.int i_thrown, .int i_down, .int i_lasts, v_buffer, .int i_size, .int i_documents, v_gone, v_first, v_many, v_lengths, v_authors, v_sums, .ref hrow, v_made, .int i_madeSize, v_base, .int i_baseSize, v_text, .int i_textSize, .int i_textSteps, v_other, .int i_otherSize, v_piece, .int i_pieceSize, .int (nI (ab + 1 + 1 + 1)), .int (nI en), .int (nI (byv S a % 128 + byv S (a + 1) % 128 * 128 + byv S (a + 1 + 1) % 128 * 16384))])), (hrow, .inl (cW, 16384, .inl (fr)))]) [0, 1] rfl
              have hD9 := hD.sub (ws' := [(h0, .inr (7, [.int i_thrown, .int i_down, .int i_lasts, v_buffer, .int i_size, .int i_documents, v_gone, v_first, v_many, v_lengths, v_authors, v_sums, .ref hrow, v_made, .int i_madeSize, v_base, .int i_baseSize, v_text, .int i_textSize, .int i_textSteps, v_other, .int i_otherSize, v_piece, .int i_pieceSize, .int (nI (ab + 1 + 1 + 1)), .int (nI en), .int (nI (byv S a % 128 + byv S (a + 1) % 128 * 128 + byv S (a + 1 + 1) % 128 * 16384))])), (hrow, .inl (cW, 16384, .inl (fr)))]) [0, 1] (by decide) rfl
              have hK9 := hK.sub (tys' := [(cW, .byte)]) [0] rfl
              exact W.zret (v := 1) (ty := .boolean) hx hb hr rfl (fun t ht hW => ⟨⟨1, (), rfl, (by rw [rd, if_neg (by omega), if_neg (by omega), if_neg (by omega), if_neg (by omega), if_neg (by omega), if_pos (by omega)]; rfl), (ab + 1 + 1 + 1), (nI (byv S a % 128 + byv S (a + 1) % 128 * 128 + byv S (a + 1 + 1) % 128 * 16384)), (by rw [rd, if_neg (by omega), if_neg (by omega), if_neg (by omega), if_neg (by omega), if_neg (by omega), if_pos (by omega)]; exact ⟨(by simp only; omega), fun v h => by cases h <;> rfl⟩), by rw [ht]; exact hP9, va_K.moved hW.alike hK9, hD9⟩, hS.F ht⟩) hS.2.2 d_O_number_75
          · have hA_28 : ¬ a + 1 + 1 < S.length := (by have h8 := (nI_eq (by omega) (by omega)).mp c_27; omega)
            refine lv_iconst (v := 0) hx hb d_O_number_23 (by decide) ?_
            have hP9 := hP.sub (ws' := [(h0, .inr (7, [.int i_thrown, .int i_down, .int i_lasts, v_buffer, .int i_size, .int i_documents, v_gone, v_first, v_many, v_lengths, v_authors, v_sums, .ref hrow, v_made, .int i_madeSize, v_base, .int i_baseSize, v_text, .int i_textSize, .int i_textSteps, v_other, .int i_otherSize, v_piece, .int i_pieceSize, .int (nI (ab + 1 + 1)), .int (nI en), .int (nI (byv S a % 128 + byv S (a + 1) % 128 * 128))])), (hrow, .inl (cW, 16384, .inl (fr)))]) [0, 1] rfl
            have hD9 := hD.sub (ws' := [(h0, .inr (7, [.int i_thrown, .int i_down, .int i_lasts, v_buffer, .int i_size, .int i_documents, v_gone, v_first, v_many, v_lengths, v_authors, v_sums, .ref hrow, v_made, .int i_madeSize, v_base, .int i_baseSize, v_text, .int i_textSize, .int i_textSteps, v_other, .int i_otherSize, v_piece, .int i_pieceSize, .int (nI (ab + 1 + 1)), .int (nI en), .int (nI (byv S a % 128 + byv S (a + 1) % 128 * 128))])), (hrow, .inl (cW, 16384, .inl (fr)))]) [0, 1] (by decide) rfl
            have hK9 := hK.sub (tys' := [(cW, .byte)]) [0] rfl
            exact W.zret (v := 0) (ty := .boolean) hx hb hr rfl (fun t ht hW => ⟨⟨0, (), rfl, (by rw [rd, if_neg (by omega), if_neg (by omega), if_neg (by omega), if_neg (by omega), if_pos (by omega)]; rfl), (ab + 1 + 1), (nI (byv S a % 128 + byv S (a + 1) % 128 * 128)), (by rw [rd, if_neg (by omega), if_neg (by omega), if_neg (by omega), if_neg (by omega), if_pos (by omega)]; exact ⟨(by simp only; omega), fun v h => by cases h <;> rfl⟩), by rw [ht]; exact hP9, va_K.moved hW.alike hK9, hD9⟩, hS.F ht⟩) hS.2.2 d_O_number_24
        · have hV_25 : byv S (a + 1) < 128 := (by rcases Nat.lt_or_ge (byv S (a + 1)) 128 with z | z; exact z; exact absurd (show nI 128 ≤ nI (byv S (a + 1)) from nI_le z (Nat.lt_trans (byv_lt _ _) (by decide))) c_24)
          refine lv_iconst (v := 1) hx hb d_O_number_74 (by decide) ?_
          have hP9 := hP.sub (ws' := [(h0, .inr (7, [.int i_thrown, .int i_down, .int i_lasts, v_buffer, .int i_size, .int i_documents, v_gone, v_first, v_many, v_lengths, v_authors, v_sums, .ref hrow, v_made, .int i_madeSize, v_base, .int i_baseSize, v_text, .int i_textSize, .int i_textSteps, v_other, .int i_otherSize, v_piece, .int i_pieceSize, .int (nI (ab + 1 + 1)), .int (nI en), .int (nI (byv S a % 128 + byv S (a + 1) % 128 * 128))])), (hrow, .inl (cW, 16384, .inl (fr)))]) [0, 1] rfl
          have hD9 := hD.sub (ws' := [(h0, .inr (7, [.int i_thrown, .int i_down, .int i_lasts, v_buffer, .int i_size, .int i_documents, v_gone, v_first, v_many, v_lengths, v_authors, v_sums, .ref hrow, v_made, .int i_madeSize, v_base, .int i_baseSize, v_text, .int i_textSize, .int i_textSteps, v_other, .int i_otherSize, v_piece, .int i_pieceSize, .int (nI (ab + 1 + 1)), .int (nI en), .int (nI (byv S a % 128 + byv S (a + 1) % 128 * 128))])), (hrow, .inl (cW, 16384, .inl (fr)))]) [0, 1] (by decide) rfl
          have hK9 := hK.sub (tys' := [(cW, .byte)]) [0] rfl
          exact W.zret (v := 1) (ty := .boolean) hx hb hr rfl (fun t ht hW => ⟨⟨1, (), rfl, (by rw [rd, if_neg (by omega), if_neg (by omega), if_neg (by omega), if_pos (by omega)]; rfl), (ab + 1 + 1), (nI (byv S a % 128 + byv S (a + 1) % 128 * 128)), (by rw [rd, if_neg (by omega), if_neg (by omega), if_neg (by omega), if_pos (by omega)]; exact ⟨(by simp only; omega), fun v h => by cases h <;> rfl⟩), by rw [ht]; exact hP9, va_K.moved hW.alike hK9, hD9⟩, hS.F ht⟩) hS.2.2 d_O_number_75
      · have hA_15 : ¬ a + 1 < S.length := (by have h8 := (nI_eq (by omega) (by omega)).mp c_14; omega)
        refine lv_iconst (v := 0) hx hb d_O_number_23 (by decide) ?_
        have hP9 := hP.sub (ws' := [(h0, .inr (7, [.int i_thrown, .int i_down, .int i_lasts, v_buffer, .int i_size, .int i_documents, v_gone, v_first, v_many, v_lengths, v_authors, v_sums, .ref hrow, v_made, .int i_madeSize, v_base, .int i_baseSize, v_text, .int i_textSize, .int i_textSteps, v_other, .int i_otherSize, v_piece, .int i_pieceSize, .int (nI (ab + 1)), .int (nI en), .int (nI (byv S a % 128))])), (hrow, .inl (cW, 16384, .inl (fr)))]) [0, 1] rfl
        have hD9 := hD.sub (ws' := [(h0, .inr (7, [.int i_thrown, .int i_down, .int i_lasts, v_buffer, .int i_size, .int i_documents, v_gone, v_first, v_many, v_lengths, v_authors, v_sums, .ref hrow, v_made, .int i_madeSize, v_base, .int i_baseSize, v_text, .int i_textSize, .int i_textSteps, v_other, .int i_otherSize, v_piece, .int i_pieceSize, .int (nI (ab + 1)), .int (nI en), .int (nI (byv S a % 128))])), (hrow, .inl (cW, 16384, .inl (fr)))]) [0, 1] (by decide) rfl
        have hK9 := hK.sub (tys' := [(cW, .byte)]) [0] rfl
        exact W.zret (v := 0) (ty := .boolean) hx hb hr rfl (fun t ht hW => ⟨⟨0, (), rfl, (by rw [rd, if_neg (by omega), if_neg (by omega), if_pos (by omega)]; rfl), (ab + 1), (nI (byv S a % 128)), (by rw [rd, if_neg (by omega), if_neg (by omega), if_pos (by omega)]; exact ⟨(by simp only; omega), fun v h => by cases h <;> rfl⟩), by rw [ht]; exact hP9, va_K.moved hW.alike hK9, hD9⟩, hS.F ht⟩) hS.2.2 d_O_number_24
    · have hV_12 : byv S a < 128 := (by rcases Nat.lt_or_ge (byv S a) 128 with z | z; exact z; exact absurd (show nI 128 ≤ nI (byv S a) from nI_le z (Nat.lt_trans (byv_lt _ _) (by decide))) c_11)
      refine lv_iconst (v := 1) hx hb d_O_number_74 (by decide) ?_
      have hP9 := hP.sub (ws' := [(h0, .inr (7, [.int i_thrown, .int i_down, .int i_lasts, v_buffer, .int i_size, .int i_documents, v_gone, v_first, v_many, v_lengths, v_authors, v_sums, .ref hrow, v_made, .int i_madeSize, v_base, .int i_baseSize, v_text, .int i_textSize, .int i_textSteps, v_other, .int i_otherSize, v_piece, .int i_pieceSize, .int (nI (ab + 1)), .int (nI en), .int (nI (byv S a % 128))])), (hrow, .inl (cW, 16384, .inl (fr)))]) [0, 1] rfl
      have hD9 := hD.sub (ws' := [(h0, .inr (7, [.int i_thrown, .int i_down, .int i_lasts, v_buffer, .int i_size, .int i_documents, v_gone, v_first, v_many, v_lengths, v_authors, v_sums, .ref hrow, v_made, .int i_madeSize, v_base, .int i_baseSize, v_text, .int i_textSize, .int i_textSteps, v_other, .int i_otherSize, v_piece, .int i_pieceSize, .int (nI (ab + 1)), .int (nI en), .int (nI (byv S a % 128))])), (hrow, .inl (cW, 16384, .inl (fr)))]) [0, 1] (by decide) rfl
      have hK9 := hK.sub (tys' := [(cW, .byte)]) [0] rfl
      exact W.zret (v := 1) (ty := .boolean) hx hb hr rfl (fun t ht hW => ⟨⟨1, (), rfl, (by rw [rd, if_neg (by omega), if_pos (by omega)]; rfl), (ab + 1), (nI (byv S a % 128)), (by rw [rd, if_neg (by omega), if_pos (by omega)]; exact ⟨(by simp only; omega), fun v h => by cases h <;> rfl⟩), by rw [ht]; exact hP9, va_K.moved hW.alike hK9, hD9⟩, hS.F ht⟩) hS.2.2 d_O_number_75
  · have hA_2 : ¬ a < S.length := (by have h8 := (nI_eq (by omega) (by omega)).mp c_1; omega)
    refine lv_iconst (v := 0) hx hb d_O_number_23 (by decide) ?_
    have hP9 := hP.sub (ws' := [(h0, .inr (7, [.int i_thrown, .int i_down, .int i_lasts, v_buffer, .int i_size, .int i_documents, v_gone, v_first, v_many, v_lengths, v_authors, v_sums, .ref hrow, v_made, .int i_madeSize, v_base, .int i_baseSize, v_text, .int i_textSize, .int i_textSteps, v_other, .int i_otherSize, v_piece, .int i_pieceSize, .int (nI (ab)), .int (nI en), .int 0])), (hrow, .inl (cW, 16384, .inl (fr)))]) [0, 1] rfl
    have hD9 := hD.sub (ws' := [(h0, .inr (7, [.int i_thrown, .int i_down, .int i_lasts, v_buffer, .int i_size, .int i_documents, v_gone, v_first, v_many, v_lengths, v_authors, v_sums, .ref hrow, v_made, .int i_madeSize, v_base, .int i_baseSize, v_text, .int i_textSize, .int i_textSteps, v_other, .int i_otherSize, v_piece, .int i_pieceSize, .int (nI (ab)), .int (nI en), .int 0])), (hrow, .inl (cW, 16384, .inl (fr)))]) [0, 1] (by decide) rfl
    have hK9 := hK.sub (tys' := [(cW, .byte)]) [0] rfl
    exact W.zret (v := 0) (ty := .boolean) hx hb hr rfl (fun t ht hW => ⟨⟨0, (), rfl, (by rw [rd, if_pos (by omega)]; rfl), (ab), 0, (by rw [rd, if_pos (by omega)]; exact ⟨(by simp only; omega), fun v h => by cases h <;> rfl⟩), by rw [ht]; exact hP9, va_K.moved hW.alike hK9, hD9⟩, hS.F ht⟩) hS.2.2 d_O_number_24
