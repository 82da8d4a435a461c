set_option maxHeartbeats 4000000 in
set_option maxRecDepth 100000 in
theorem lq_rbk {p : Program} {l : Launch} {e : Env} {s : State} {m : MethodId} {args : Array Value} {below : List Frame} {meth : Method} {c : Code} {dC : Nat → ClassId} {dI : Nat → Nat → Nat} {Q : State → Prop} {H : Heap} {locs : List Loc} (h0 : Nat) (hy : Nat) (cB : ClassId) (k : Nat) (f : Nat → Int32) (L : List Int32) (h2 : Nat) (hy2 : Nat) (cB2 : ClassId) (k2 : Nat) (fo : Nat → Int32) (L2 : List Int32) (ah : Nat) (htx : tx L k f) (htx2 : tx L2 k2 fo) (hk : k ≤ 256) (hk2 : k2 ≤ 256) (hah : ah ≤ min k k2)
    (hx : p.tables.exec = Jvm.exec) (hb : c.code = prog_7_method_10_code) (hml : c.maxLocals = 5) (hown : s.vm.findClass R_T = some m.cls) (hw0 : ∀ w ∈ w0, w.before args s = true) (hN : nw_ok s) (hK : va_K (dC, dI) vwCl [(cB, .byte), (cB2, .byte)] s) (hP : va_P (dC, dI) vwCl [(h0, .inr (1, [.ref hy, .int (nI k)])), (hy, .inl (cB, 256, .inl (f))), (h2, .inr (1, [.ref hy2, .int (nI k2)])), (hy2, .inl (cB2, 256, .inl (fo)))] H)
    (kk : ∀ ls : Array Slot, lv_has ls 5 [(4, .int (nI (min (cpl L.reverse L2.reverse) (min k k2 - ah)))), (3, .int (nI (min k k2 - ah))), (0, .ref h0), (1, .ref h2), (2, .int (nI ah))] → W p l e ({ frames := 1, cells := 0, slots := 0, locals := 24 } : Room) s m args below meth c H locs 0 0 Q (F0 m 60 ls [])) :
    ∀ (n j : Nat), j ≤ (min k k2 - ah) → (min k k2 - ah) < j + n → (∀ t, t < j → L.reverse.getD t 0 = L2.reverse.getD t 0) → ∀ ls : Array Slot, lv_has ls 5 [(4, .int (nI j)), (3, .int (nI (min k k2 - ah))), (0, .ref h0), (1, .ref h2), (2, .int (nI ah))] → W p l e ({ frames := 1, cells := 0, slots := 0, locals := 24 } : Room) s m args below meth c H locs 0 0 Q (F0 m 17 ls []) := by
  intro n
  induction n with
  | zero => intro j  h1 h2; exact absurd h2 (by omega)
  | succ n ih =>
    intro j  hj hn hf0 ls hl
    refine lv_iload hx hb d_T_runBackWith_17 (lv_at hl 0 rfl) ?_
    refine lv_iload_n hx hb d_T_runBackWith_19 rfl (lv_at hl 1 rfl) ?_
    refine lv_icmp_ge (tgt := 60) hx hb d_T_runBackWith_20 (by decide) (fun c_1 => ?_) (fun c_1 => ?_)
    · have e9 : (min (cpl L.reverse L2.reverse) (min k k2 - ah)) = j := cpb_2 htx htx2 (x_geN (by omega) hj c_1) (by omega) hf0
      exact kk ls (by rw [e9]; exact (lv_sub hl [0, 1, 2, 3, 4] rfl))
    · have hlt : j < (min k k2 - ah) := x_ltN (by omega) hj c_1
      refine lv_aload_n hx hb d_T_runBackWith_23 rfl (lv_at hl 2 rfl) ?_
      refine va_get (D := (dC, dI)) (ci := 1) (v := .ref hy) (C := R_T) (T := F_T) (N := 2) hx hb hw0 in_T hown hK hP 0 rfl rfl 0 (by decide) (hw0 (.fieldLink R_T 9 "TextKeeper$Text" "bytes" "[B") (List.mem_of_getElem? (i := 61) rfl)) (fun _ h9 => h9) rfl d_T_runBackWith_24 ?_
      refine lv_aload_n hx hb d_T_runBackWith_27 rfl (lv_at hl 2 rfl) ?_
      refine va_get (D := (dC, dI)) (ci := 1) (v := .int (nI k)) (C := R_T) (T := F_T) (N := 2) hx hb hw0 in_T hown hK hP 0 rfl rfl 1 (by decide) (hw0 (.fieldLink R_T 15 "TextKeeper$Text" "length" "I") (List.mem_of_getElem? (i := 62) rfl)) (fun _ h9 => h9) rfl d_T_runBackWith_28 ?_
      refine lv_iconst (v := 1) hx hb d_T_runBackWith_31 (by decide) ?_
      refine lv_isub hx hb d_T_runBackWith_32 ?_
      refine lv_topi (fun x_2 ex_2 => ?_)
      obtain rfl : x_2 = (nI (k - 1)) := by rw [ex_2]; exact (show nI k - nI 1 = nI (k - 1) from pk_sub (by omega))
      clear ex_2
      refine lv_iload hx hb d_T_runBackWith_33 (lv_at hl 0 rfl) ?_
      refine lv_isub hx hb d_T_runBackWith_35 ?_
      refine lv_topi (fun x_3 ex_3 => ?_)
      obtain rfl : x_3 = (nI (k - 1 - j)) := by rw [ex_3]; exact pk_sub (by omega)
      clear ex_3
      refine va_bald hx hb hK hP 1 0 rfl rfl (vp_in_nI (by omega) (by decide)) d_T_runBackWith_36 ?_
      refine lv_topi (fun x_4 ex_4 => ?_)
      refine lv_aload_n hx hb d_T_runBackWith_37 rfl (lv_at hl 3 rfl) ?_
      refine va_get (D := (dC, dI)) (ci := 1) (v := .ref hy2) (C := R_T) (T := F_T) (N := 2) hx hb hw0 in_T hown hK hP 2 rfl rfl 0 (by decide) (hw0 (.fieldLink R_T 9 "TextKeeper$Text" "bytes" "[B") (List.mem_of_getElem? (i := 61) rfl)) (fun _ h9 => h9) rfl d_T_runBackWith_38 ?_
      refine lv_aload_n hx hb d_T_runBackWith_41 rfl (lv_at hl 3 rfl) ?_
      refine va_get (D := (dC, dI)) (ci := 1) (v := .int (nI k2)) (C := R_T) (T := F_T) (N := 2) hx hb hw0 in_T hown hK hP 2 rfl rfl 1 (by decide) (hw0 (.fieldLink R_T 15 "TextKeeper$Text" "length" "I") (List.mem_of_getElem? (i := 62) rfl)) (fun _ h9 => h9) rfl d_T_runBackWith_42 ?_
      refine lv_iconst (v := 1) hx hb d_T_runBackWith_45 (by decide) ?_
      refine lv_isub hx hb d_T_runBackWith_46 ?_
      refine lv_topi (fun x_5 ex_5 => ?_)
      obtain rfl : x_5 = (nI (k2 - 1)) := by rw [ex_5]; exact (show nI k2 - nI 1 = nI (k2 - 1) from pk_sub (by omega))
      clear ex_5
      refine lv_iload hx hb d_T_runBackWith_47 (lv_at hl 0 rfl) ?_
      refine lv_isub hx hb d_T_runBackWith_49 ?_
      refine lv_topi (fun x_6 ex_6 => ?_)
      obtain rfl : x_6 = (nI (k2 - 1 - j)) := by rw [ex_6]; exact pk_sub (by omega)
      clear ex_6
      refine va_bald hx hb hK hP 3 1 rfl rfl (vp_in_nI (by omega) (by decide)) d_T_runBackWith_50 ?_
      refine lv_topi (fun x_7 ex_7 => ?_)
      refine lv_icmp_ne (tgt := 60) hx hb d_T_runBackWith_51 (by decide) (fun c_8 => ?_) (fun c_8 => ?_)
      · have e9 : (min (cpl L.reverse L2.reverse) (min k k2 - ah)) = j := cpb_1 htx htx2 hj (by omega) hf0 (fun h9 => c_8 (by rw [ex_4, ex_7, nI_clamp (by omega), nI_clamp (by omega), tx_at htx (by omega), tx_at htx2 (by omega)]; rw [rev_at htx (by omega), rev_at htx2 (by omega)] at h9; exact h9))
        exact kk ls (by rw [e9]; exact (lv_sub hl [0, 1, 2, 3, 4] rfl))
      · refine lv_iinc (v := nI (j + 1)) (lv' := [(4, .int (nI (j + 1))), (3, .int (nI (min k k2 - ah))), (0, .ref h0), (1, .ref h2), (2, .int (nI ah))]) hx hb d_T_runBackWith_54 hl (k := 0) rfl (nI_1 j) (by decide) rfl (fun ls hl => ?_)
        refine lv_goto (tgt := 17) hx hb d_T_runBackWith_57 (by decide) ?_
        exact ih (j + 1) hlt (by omega) (fun t ht => by rcases Nat.lt_or_ge t j with q | q; exact hf0 t q; obtain rfl : t = j := (by omega); have h9 := c_8; rw [ex_4, ex_7, nI_clamp (by omega), nI_clamp (by omega), tx_at htx (by omega), tx_at htx2 (by omega)] at h9; rw [rev_at htx (by omega), rev_at htx2 (by omega)]; exact h9) ls (lv_sub hl [0, 1, 2, 3, 4] rfl)
set_option maxHeartbeats 4000000 in
set_option maxRecDepth 100000 in
theorem g_runBack (l : Launch) (dC : Nat → ClassId) (dI : Nat → Nat → Nat) (h0 : Nat) (hy : Nat) (cB : ClassId) (k : Nat) (f : Nat → Int32) (L : List Int32) (h2 : Nat) (hy2 : Nat) (cB2 : ClassId) (k2 : Nat) (fo : Nat → Int32) (L2 : List Int32) (ah : Nat) (htx : tx L k f) (htx2 : tx L2 k2 fo) (hk : k ≤ 256) (hk2 : k2 ≤ 256) (hah : ah ≤ min k k2) : Met l y_T_runBackWith k_T_runBackWith ({ frames := 1, cells := 0, slots := 0, locals := 24 } : Room) (va_Pc [.ref h0, .ref h2, .int (nI ah)] (pc_R (dC, dI) [(h0, .inr (1, [.ref hy, .int (nI k)])), (hy, .inl (cB, 256, .inl (f))), (h2, .inr (1, [.ref hy2, .int (nI k2)])), (hy2, .inl (cB2, 256, .inl (fo)))] [(cB, .byte), (cB2, .byte)])) (vp_Si (fun r => r = nI (min (cpl L.reverse L2.reverse) (min k k2 - ah)))) 0 0 (fun _ => False) := by
  refine Met.ofW (cc := prog_7_method_10_code) (maxL := 5) (ret := (some .int)) (by decide) rfl ?_
  intro p e s m args below meth c s₁ B hml hv
  obtain ⟨rfl, hP, hK, hN⟩ := hv
  have hx := B.exec
  have hb := B.bytes
  have hr := B.returns
  have hts := atoms_spec (ws := k_T_runBackWith) B.pre
  have hw0 : ∀ w ∈ w0, w.before _ s = true := fun w h => hts w (List.mem_cons_of_mem _ h)
  have hown : s.vm.findClass R_T = some m.cls := findClass_of_methodNamed B.named
  have hlocks := B.notSynchronized
  have hP : va_P (dC, dI) vwCl [(h0, .inr (1, [.ref hy, .int (nI k)])), (hy, .inl (cB, 256, .inl (f))), (h2, .inr (1, [.ref hy2, .int (nI k2)])), (hy2, .inl (cB2, 256, .inl (fo)))] s.heap := hP
  have hl := lv_entry ([.ref h0, .ref h2, .int (nI ah)]) (n := 5) (Nat.le_of_ble_eq_true rfl)
  rw [lg_entry_eq]
  generalize (lg_sl ([.ref h0, .ref h2, .int (nI ah)]) ++ List.replicate (5 - (lg_sl ([.ref h0, .ref h2, .int (nI ah)])).length) Slot.unset).toArray = ls at hl ⊢
  have hl : lv_has ls 5 [(0, .ref h0), (1, .ref h2), (2, .int (nI ah))] := hl
  refine lv_aload_n hx hb d_T_runBackWith_0 rfl (lv_at hl 0 rfl) ?_
  refine va_get (D := (dC, dI)) (ci := 1) (v := .int (nI k)) (C := R_T) (T := F_T) (N := 2) hx hb hw0 in_T hown hK hP 0 rfl rfl 1 (by decide) (hw0 (.fieldLink R_T 15 "TextKeeper$Text" "length" "I") (List.mem_of_getElem? (i := 62) rfl)) (fun _ h9 => h9) rfl d_T_runBackWith_1 ?_
  refine lv_aload_n hx hb d_T_runBackWith_4 rfl (lv_at hl 1 rfl) ?_
  refine va_get (D := (dC, dI)) (ci := 1) (v := .int (nI k2)) (C := R_T) (T := F_T) (N := 2) hx hb hw0 in_T hown hK hP 2 rfl rfl 1 (by decide) (hw0 (.fieldLink R_T 15 "TextKeeper$Text" "length" "I") (List.mem_of_getElem? (i := 62) rfl)) (fun _ h9 => h9) rfl d_T_runBackWith_5 ?_
  refine va_mmin hx hb (hml.trans hl.1.symm) hown (hw0 (.methodLink R_T 29 ⟨"java/lang/Math","min","(II)I"⟩) (List.mem_of_getElem? (i := 117) rfl)) (hw0 (.static ⟨"java/lang/Math","min","(II)I"⟩) (List.mem_of_getElem? (i := 118) rfl)) (hw0 (.initialized "java/lang/Math") (List.mem_of_getElem? (i := 119) rfl)) (hw0 (.code Lib.Math.min.name Lib.Math.min.code 2 (some .int)) (List.mem_of_getElem? (i := 116) rfl)) (Nat.le_of_ble_eq_true rfl) (Nat.le_of_ble_eq_true rfl) (by decide +kernel) (by decide +kernel) d_T_runBackWith_8 ?_
  refine lv_topi (fun x_1 ex_1 => ?_)
  obtain rfl : x_1 = (nI (min k k2)) := ex_1.trans (x_min (a := k) (b := k2) (by omega) (by omega))
  clear ex_1
  refine lv_iload_n hx hb d_T_runBackWith_11 rfl (lv_at hl 2 rfl) ?_
  refine lv_isub hx hb d_T_runBackWith_12 ?_
  refine lv_topi (fun x_2 ex_2 => ?_)
  obtain rfl : x_2 = (nI (min k k2 - ah)) := by rw [ex_2]; exact pk_sub hah
  clear ex_2
  refine lv_istore_n (lv' := [(3, .int (nI (min k k2 - ah))), (0, .ref h0), (1, .ref h2), (2, .int (nI ah))]) hx hb d_T_runBackWith_13 rfl hl (by decide) rfl (fun ls hl => ?_)
  refine lv_iconst (v := 0) hx hb d_T_runBackWith_14 (by decide) ?_
  refine lv_istore (lv' := [(4, .int 0), (3, .int (nI (min k k2 - ah))), (0, .ref h0), (1, .ref h2), (2, .int (nI ah))]) hx hb d_T_runBackWith_15 hl (by decide) rfl (fun ls hl => ?_)
  refine lq_rbk h0 hy cB k f L h2 hy2 cB2 k2 fo L2 ah htx htx2 hk hk2 hah hx hb hml hown hw0 hN hK hP (fun ls hl => ?_) ((min k k2 - ah) + 1) 0 (by omega) (by omega) (fun t ht => absurd ht (Nat.not_lt_zero t)) ls (lv_sub hl [0, 1, 2, 3, 4] rfl)
  refine lv_iload hx hb d_T_runBackWith_60 (lv_at hl 0 rfl) ?_
  exact W.iret (v := (nI (min (cpl L.reverse L2.reverse) (min k k2 - ah)))) hx hb hr (fun t ht hW => ⟨(nI (min (cpl L.reverse L2.reverse) (min k k2 - ah))), rfl, rfl, ht⟩) (fun q h => by cases h) d_T_runBackWith_62
set_option maxHeartbeats 4000000 in
set_option maxRecDepth 100000 in
theorem g_isSound (l : Launch) (dC : Nat → ClassId) (dI : Nat → Nat → Nat) (sz : Nat) (h0 : Nat) (v_documents : Value) (v_buffer : Value) (v_fetched : Value) (v_compared : Value) (v_writer : Value) (v_power : Value) (i_madeDocuments : Int32) (i_fetchedSteps : Int32) (hmk : Nat) (hta : Nat) (hty : Nat) (hba : Nat) (hby : Nat) (cB : ClassId) (k : Nat) (f : Nat → Int32) (kb : Nat) (fb : Nat → Int32) (vp : Value) (a0 : Int32) (T : List Int32) (Bs : List Int32) (hdo : Nat) (hra : Nat) (cR : ClassId) (df : Nat) (dn : Nat) (rv : Nat → Option Rc) (pl : va_W) (r9 : Nat) (a9 : Nat) (pa9 : Nat) (np9 : Nat) (fp9 : Nat → Int32) (S9 : List Int32) (au9 : Int32) (sm9 : Int32) (htt : tx T k f) (hk : k ≤ 256) (htb : tx Bs kb fb) (hkb : kb ≤ 256) (hdn : dn ≤ 64) (hr9 : r9 < dn) (hpl : plR cB rv pl) (hok : rvOk rv) (hrv : rv r9 = some ⟨a9, pa9, np9, fp9, S9, au9, sm9⟩) : Met l y_K_isSound k_K_isSound ({ frames := 5, cells := 0, slots := 0, locals := 119 } : Room) (va_Pc [.ref h0, .ref hdo, .int (nI r9)] (pc_E (dC, dI) (([(h0, .inr (0, [v_documents, v_buffer, v_fetched, v_compared, .ref hmk, v_writer, v_power, .int i_madeDocuments, .int i_fetchedSteps])), (hmk, .inr (2, [.ref hba, .ref hta, vp, .int a0])), (hta, .inr (1, [.ref hty, .int (nI k)])), (hty, .inl (cB, 256, .inl (f))), (hba, .inr (1, [.ref hby, .int (nI kb)])), (hby, .inl (cB, 256, .inl (fb))), (hdo, .inr (5, [.ref hra, .int (nI df), .int (nI dn)])), (hra, .inl (cR, 64, .inr (.inr (.inr (.inr ((rvA rv)))))))] : va_W) ++ pl) [(cR, .object R_V), (cB, .byte)] sz)) (va_Qi (fun (r : Int32) (_ : Unit) => r = bI (sndR rv r9)) (fun (_ : Unit) t => ∃ (hta2 : Nat) (hty2 : Nat) (hba2 : Nat) (hby2 : Nat) (k2 : Nat) (f2 : Nat → Int32) (kb2 : Nat) (fb2 : Nat → Int32) (vp2 : Value) (a2x : Int32) (B2 : List Int32) (T2 : List Int32), ((tx T2 k2 f2 ∧ k2 ≤ 256) ∧ (tx B2 kb2 fb2 ∧ kb2 ≤ 256)) ∧ at_E (dC, dI) (va_A (([(h0, .inr (0, [v_documents, v_buffer, v_fetched, v_compared, .ref hmk, v_writer, v_power, .int i_madeDocuments, .int i_fetchedSteps])), (hmk, .inr (2, [.ref hba, .ref hta, vp, .int a0])), (hta, .inr (1, [.ref hty, .int (nI k)])), (hty, .inl (cB, 256, .inl (f))), (hba, .inr (1, [.ref hby, .int (nI kb)])), (hby, .inl (cB, 256, .inl (fb))), (hdo, .inr (5, [.ref hra, .int (nI df), .int (nI dn)])), (hra, .inl (cR, 64, .inr (.inr (.inr (.inr ((rvA rv)))))))] : va_W) ++ pl) sz) (([(h0, .inr (0, [v_documents, v_buffer, v_fetched, v_compared, .ref hmk, v_writer, v_power, .int i_madeDocuments, .int i_fetchedSteps])), (hmk, .inr (2, [.ref hba2, .ref hta2, vp2, .int a2x])), (hta2, .inr (1, [.ref hty2, .int (nI k2)])), (hty2, .inl (cB, 256, .inl (f2))), (hba2, .inr (1, [.ref hby2, .int (nI kb2)])), (hby2, .inl (cB, 256, .inl (fb2))), (hdo, .inr (5, [.ref hra, .int (nI df), .int (nI dn)])), (hra, .inl (cR, 64, .inr (.inr (.inr (.inr ((rvA rv)))))))] : va_W) ++ pl) [(cR, .object R_V), (cB, .byte)] t) (va_A (([(h0, .inr (0, [v_documents, v_buffer, v_fetched, v_compared, .ref hmk, v_writer, v_power, .int i_madeDocuments, .int i_fetchedSteps])), (hmk, .inr (2, [.ref hba, .ref hta, vp, .int a0])), (hta, .inr (1, [.ref hty, .int (nI k)])), (hty, .inl (cB, 256, .inl (f))), (hba, .inr (1, [.ref hby, .int (nI kb)])), (hby, .inl (cB, 256, .inl (fb))), (hdo, .inr (5, [.ref hra, .int (nI df), .int (nI dn)])), (hra, .inl (cR, 64, .inr (.inr (.inr (.inr ((rvA rv)))))))] : va_W) ++ pl) sz)) 0 0 (va_A (([(h0, .inr (0, [v_documents, v_buffer, v_fetched, v_compared, .ref hmk, v_writer, v_power, .int i_madeDocuments, .int i_fetchedSteps])), (hmk, .inr (2, [.ref hba, .ref hta, vp, .int a0])), (hta, .inr (1, [.ref hty, .int (nI k)])), (hty, .inl (cB, 256, .inl (f))), (hba, .inr (1, [.ref hby, .int (nI kb)])), (hby, .inl (cB, 256, .inl (fb))), (hdo, .inr (5, [.ref hra, .int (nI df), .int (nI dn)])), (hra, .inl (cR, 64, .inr (.inr (.inr (.inr ((rvA rv)))))))] : va_W) ++ pl) sz) := by
  refine Met.ofW (cc := prog_1_method_25_code) (maxL := 5) (ret := (some .boolean)) (by decide) rfl ?_
  intro p e s m args below meth c s₁ B hml hv
  obtain ⟨rfl, hsz, hP, hK, hD0, hN⟩ := hv
  have hx := B.exec
  have hb := B.bytes
  have hr := B.returns
  have hts := atoms_spec (ws := k_K_isSound) B.pre
  have hw0 : ∀ w ∈ w0, w.before _ s = true := fun w h => hts w (List.mem_cons_of_mem _ h)
  have hown : s.vm.findClass R_K = some m.cls := findClass_of_methodNamed B.named
  have hlocks := B.notSynchronized
  subst hsz
  have hD := hD0.self (sz := s.heap.size)
  generalize hAe : va_A (([(h0, .inr (0, [v_documents, v_buffer, v_fetched, v_compared, .ref hmk, v_writer, v_power, .int i_madeDocuments, .int i_fetchedSteps])), (hmk, .inr (2, [.ref hba, .ref hta, vp, .int a0])), (hta, .inr (1, [.ref hty, .int (nI k)])), (hty, .inl (cB, 256, .inl (f))), (hba, .inr (1, [.ref hby, .int (nI kb)])), (hby, .inl (cB, 256, .inl (fb))), (hdo, .inr (5, [.ref hra, .int (nI df), .int (nI dn)])), (hra, .inl (cR, 64, .inr (.inr (.inr (.inr ((rvA rv)))))))] : va_W) ++ pl) s.heap.size = A at hD ⊢
  have hA : ∀ q : Nat, s.heap.size ≤ q → A q := fun q h => by rw [← hAe]; exact Or.inr h
  have hS : va_S A s.heap s.heap [] := va_S.rf
  have hP : va_P (dC, dI) vwCl (([(h0, .inr (0, [v_documents, v_buffer, v_fetched, v_compared, .ref hmk, v_writer, v_power, .int i_madeDocuments, .int i_fetchedSteps])), (hmk, .inr (2, [.ref hba, .ref hta, vp, .int a0])), (hta, .inr (1, [.ref hty, .int (nI k)])), (hty, .inl (cB, 256, .inl (f))), (hba, .inr (1, [.ref hby, .int (nI kb)])), (hby, .inl (cB, 256, .inl (fb))), (hdo, .inr (5, [.ref hra, .int (nI df), .int (nI dn)])), (hra, .inl (cR, 64, .inr (.inr (.inr (.inr ((rvA rv)))))))] : va_W) ++ pl) s.heap := hP
  have hl := lv_entry ([.ref h0, .ref hdo, .int (nI r9)]) (n := 5) (Nat.le_of_ble_eq_true rfl)
  rw [lg_entry_eq]
  generalize (lg_sl ([.ref h0, .ref hdo, .int (nI r9)]) ++ List.replicate (5 - (lg_sl ([.ref h0, .ref hdo, .int (nI r9)])).length) Slot.unset).toArray = ls at hl ⊢
  have hl : lv_has ls 5 [(0, .ref h0), (1, .ref hdo), (2, .int (nI r9))] := hl
  have hkS : atN dn (rvA rv) (nI r9) = some a9 := (by rw [atN_nI (by omega) hr9]; exact rvA_s hrv)
  refine lv_aload_n hx hb d_K_isSound_0 rfl (lv_at hl 1 rfl) ?_
  refine lv_iload_n hx hb d_K_isSound_1 rfl (lv_at hl 2 rfl) ?_
  have hPc := hP.sub (ws' := [(hdo, .inr (5, [.ref hra, .int (nI df), .int (nI dn)])), (hra, .inl (cR, 64, .inr (.inr (.inr (.inr (((rvA rv))))))))]) [6, 7] rfl
  have hKc := hK.sub (tys' := [(cR, .object R_V)]) [0] rfl
  refine ps_q (va_runV (As := [.int (nI r9)]) (rest := []) ⟨hx, hb, hml, hown, hw0⟩ (g_keptAt_S l dC dI hdo hra cR df dn ((rvA rv)) (nI r9) a9 (by first | assumption | decide | omega) (by first | assumption | decide | omega)) (cwV 1 hw0 (gd_V 321 231 232 233 234 rfl rfl rfl rfl rfl) rfl rfl rfl (by decide +kernel) ⟨by decide +kernel, by decide +kernel⟩) (prV_R hPc hKc hN (va_recv hKc hPc (ci := 5) (q0 := 0) rfl rfl)) rfl rfl hl.1 rfl (lv_room (Nat.le_of_ble_eq_true rfl)) d_K_isSound_2 ⟨by decide +kernel, by decide +kernel⟩) (fun r_1 hr_1 => ?_)
  obtain rfl : r_1 = some a9 := hr_1
  refine W.eq (g2 := F0 m 5 ls [.ref a9]) rfl ?_
  refine lv_astore_n (lv' := [(3, .ref a9), (0, .ref h0), (1, .ref hdo), (2, .int (nI r9))]) hx hb d_K_isSound_5 rfl hl (by decide) rfl (fun ls hl => ?_)
  rcases hag : agn (rvP rv) r9 with _ | Y
  · have hsn : sndR rv r9 = false := sndR_n hag
    refine lv_aload_n hx hb d_K_isSound_6 rfl (lv_at hl 1 rfl) ?_
    refine va_get (D := (dC, dI)) (ci := 0) (v := .ref hmk) (C := R_K) (T := F_K) (N := 9) hx hb hw0 in_K hown hK hP 0 rfl rfl 4 (by decide) (hw0 (.fieldLink R_K 31 "TextKeeper" "maker" "LTextKeeper$Maker;") (List.mem_of_getElem? (i := 91) rfl)) (fun _ h9 => h9) rfl d_K_isSound_7 ?_
    refine lv_aload_n hx hb d_K_isSound_10 rfl (lv_at hl 2 rfl) ?_
    refine lv_iload_n hx hb d_K_isSound_11 rfl (lv_at hl 3 rfl) ?_
    have hPc := hP.part (cx := [(hmk, .inr (2, [.ref hba, .ref hta, vp, .int a0])), (hta, .inr (1, [.ref hty, .int (nI k)])), (hty, .inl (cB, 256, .inl ((f)))), (hba, .inr (1, [.ref hby, .int (nI kb)])), (hby, .inl (cB, 256, .inl ((fb)))), (hdo, .inr (5, [.ref hra, .int (nI df), .int (nI dn)])), (hra, .inl (cR, 64, .inr (.inr (.inr (.inr ((rvA rv)))))))]) [1, 2, 3, 4, 5, 6, 7] rfl
    have hKc := hK.sub (tys' := [(cB, .byte), (cR, .object R_V)]) [1, 0] rfl
    have hDc := hD.part (cx := [(hmk, .inr (2, [.ref hba, .ref hta, vp, .int a0])), (hta, .inr (1, [.ref hty, .int (nI k)])), (hty, .inl (cB, 256, .inl ((f)))), (hba, .inr (1, [.ref hby, .int (nI kb)])), (hby, .inl (cB, 256, .inl ((fb)))), (hdo, .inr (5, [.ref hra, .int (nI df), .int (nI dn)])), (hra, .inl (cR, 64, .inr (.inr (.inr (.inr ((rvA rv)))))))]) [1, 2, 3, 4, 5, 6, 7] (by decide) rfl
    have hFc := va_freeP (cx := [(hmk, .inr (2, [.ref hba, .ref hta, vp, .int a0])), (hta, .inr (1, [.ref hty, .int (nI k)])), (hty, .inl (cB, 256, .inl ((f)))), (hba, .inr (1, [.ref hby, .int (nI kb)])), (hby, .inl (cB, 256, .inl ((fb)))), (hdo, .inr (5, [.ref hra, .int (nI df), .int (nI dn)])), (hra, .inl (cR, 64, .inr (.inr (.inr (.inr ((rvA rv)))))))]) hD hS hA [1, 2, 3, 4, 5, 6, 7] rfl
    refine va_callq (va_runV (As := [.ref hdo, .int (nI r9)]) (rest := []) ⟨hx, hb, hml, hown, hw0⟩ (g_makeAgain_N l dC dI s.heap.size hmk hta hty hba hby cB k (f) kb (fb) vp a0 T Bs hdo hra cR df dn _ pl r9 (by first | assumption | decide | omega) (by first | assumption | decide | omega) (by first | assumption | decide | omega) (by first | assumption | decide | omega) (by first | assumption | decide | omega) (by first | assumption | decide | omega) (by first | assumption | decide | omega) (by first | assumption | decide | omega) (by first | assumption | decide | omega)) (cwV 2 hw0 (gd_V 411 244 245 87 246 rfl rfl rfl rfl rfl) rfl rfl rfl (by decide +kernel) ⟨by decide +kernel, by decide +kernel⟩) (prV_E hPc hKc hDc hN (va_recv hKc hPc (ci := 2) (q0 := 0) rfl rfl)) rfl rfl hl.1 rfl (lv_room (Nat.le_of_ble_eq_true rfl)) d_K_isSound_12 ⟨by decide +kernel, by decide +kernel⟩) hS (fun q _ h => hFc q h) hFc (fun r_2 u t H1 locs ht hvm hw hB hz1 hk1 hS => ?_)
    obtain ⟨hta2_3, hty2_4, hba2_5, hby2_6, k2_7, f2_8, kb2_9, fb2_10, vp2_11, a2_12, B2_13, T2_14, ⟨hu_15_0, hu_15_1⟩, hP1, hK1, hD1⟩ := hB
    rw [ht] at hP1
    have hK1 := va_K.moved hvm.symm hK1
    try dsimp only at hw
    obtain ⟨hP, hD⟩ := va_joinP (wr := [(h0, .inr (0, [v_documents, v_buffer, v_fetched, v_compared, .ref hmk, v_writer, v_power, .int i_madeDocuments, .int i_fetchedSteps]))]) (rx := [(hmk, .inr (2, [.ref hba2_5, .ref hta2_3, vp2_11, .int a2_12])), (hta2_3, .inr (1, [.ref hty2_4, .int (nI k2_7)])), (hty2_4, .inl (cB, 256, .inl (f2_8))), (hba2_5, .inr (1, [.ref hby2_6, .int (nI kb2_9)])), (hby2_6, .inl (cB, 256, .inl (fb2_10))), (hdo, .inr (5, [.ref hra, .int (nI df), .int (nI dn)])), (hra, .inl (cR, 64, .inr (.inr (.inr (.inr ((rvA rv)))))))]) hP hD [1, 2, 3, 4, 5, 6, 7] [0] rfl rfl (by decide) (by decide) hk1 hFc hP1 hD1
    generalize H1 = H at hP hS ⊢
    replace hP : va_P (dC, dI) vwCl (([(h0, .inr (0, [v_documents, v_buffer, v_fetched, v_compared, .ref hmk, v_writer, v_power, .int i_madeDocuments, .int i_fetchedSteps])), (hmk, .inr (2, [.ref hba2_5, .ref hta2_3, vp2_11, .int a2_12])), (hta2_3, .inr (1, [.ref hty2_4, .int (nI k2_7)])), (hty2_4, .inl (cB, 256, .inl (f2_8))), (hba2_5, .inr (1, [.ref hby2_6, .int (nI kb2_9)])), (hby2_6, .inl (cB, 256, .inl (fb2_10))), (hdo, .inr (5, [.ref hra, .int (nI df), .int (nI dn)])), (hra, .inl (cR, 64, .inr (.inr (.inr (.inr ((rvA rv)))))))] : va_W) ++ pl) H := hP
    replace hD : va_D A (([(h0, .inr (0, [v_documents, v_buffer, v_fetched, v_compared, .ref hmk, v_writer, v_power, .int i_madeDocuments, .int i_fetchedSteps])), (hmk, .inr (2, [.ref hba2_5, .ref hta2_3, vp2_11, .int a2_12])), (hta2_3, .inr (1, [.ref hty2_4, .int (nI k2_7)])), (hty2_4, .inl (cB, 256, .inl (f2_8))), (hba2_5, .inr (1, [.ref hby2_6, .int (nI kb2_9)])), (hby2_6, .inl (cB, 256, .inl (fb2_10))), (hdo, .inr (5, [.ref hra, .int (nI df), .int (nI dn)])), (hra, .inl (cR, 64, .inr (.inr (.inr (.inr ((rvA rv)))))))] : va_W) ++ pl) := hD
    replace hK : va_K (dC, dI) vwCl [(cR, .object R_V), (cB, .byte)] s := hK
    obtain rfl : r_2 = none := hw
    refine W.eq (g2 := F0 m 15 ls [.null]) rfl ?_
    have hYt := hu_15_0.1
    have hYk := hu_15_0.2
    · have hz8 := hdn
      refine lv_astoreN (lv' := [(4, .null), (3, .ref a9), (0, .ref h0), (1, .ref hdo), (2, .int (nI r9))]) hx hb d_K_isSound_15 hl (by decide) rfl (fun ls hl => ?_)
      refine lv_aload_n hx hb d_K_isSound_17 rfl (lv_at hl 1 rfl) ?_
      refine lv_ifnull hx hb d_K_isSound_18 ?_
      refine lv_aloadN hx hb d_K_isSound_21 (lv_at hl 0 rfl) ?_
      refine lv_ifnullN (tgt := 42) hx hb d_K_isSound_23 (by decide) ?_
      refine lv_iconst (v := 0) hx hb d_K_isSound_42 (by decide) ?_
      have hP9 := hP.part (cx := [(h0, .inr (0, [v_documents, v_buffer, v_fetched, v_compared, .ref hmk, v_writer, v_power, .int i_madeDocuments, .int i_fetchedSteps])), (hmk, .inr (2, [.ref hba2_5, .ref hta2_3, vp2_11, .int a2_12])), (hta2_3, .inr (1, [.ref hty2_4, .int (nI k2_7)])), (hty2_4, .inl (cB, 256, .inl (f2_8))), (hba2_5, .inr (1, [.ref hby2_6, .int (nI kb2_9)])), (hby2_6, .inl (cB, 256, .inl (fb2_10))), (hdo, .inr (5, [.ref hra, .int (nI df), .int (nI dn)])), (hra, .inl (cR, 64, .inr (.inr (.inr (.inr ((rvA rv)))))))]) [0, 1, 2, 3, 4, 5, 6, 7] rfl
      have hD9 := hD.part (cx := [(h0, .inr (0, [v_documents, v_buffer, v_fetched, v_compared, .ref hmk, v_writer, v_power, .int i_madeDocuments, .int i_fetchedSteps])), (hmk, .inr (2, [.ref hba2_5, .ref hta2_3, vp2_11, .int a2_12])), (hta2_3, .inr (1, [.ref hty2_4, .int (nI k2_7)])), (hty2_4, .inl (cB, 256, .inl (f2_8))), (hba2_5, .inr (1, [.ref hby2_6, .int (nI kb2_9)])), (hby2_6, .inl (cB, 256, .inl (fb2_10))), (hdo, .inr (5, [.ref hra, .int (nI df), .int (nI dn)])), (hra, .inl (cR, 64, .inr (.inr (.inr (.inr ((rvA rv)))))))]) [0, 1, 2, 3, 4, 5, 6, 7] (by decide) rfl
      have hK9 := hK.sub (tys' := [(cR, .object R_V), (cB, .byte)]) [0, 1] rfl
      exact W.zret (v := 0) (ty := .boolean) hx hb hr rfl (fun t ht hW => ⟨⟨0, (), rfl, (by rw [hsn]; rfl), hta2_3, hty2_4, hba2_5, hby2_6, k2_7, f2_8, kb2_9, fb2_10, vp2_11, a2_12, B2_13, T2_14, ⟨hu_15_0, hu_15_1⟩, by rw [ht]; exact hP9, va_K.moved hW.alike hK9, hD9⟩, hS.F ht⟩) hS.2.2 d_K_isSound_43
  · have hz9 := hdn
    refine lv_aload_n hx hb d_K_isSound_6 rfl (lv_at hl 1 rfl) ?_
    refine va_get (D := (dC, dI)) (ci := 0) (v := .ref hmk) (C := R_K) (T := F_K) (N := 9) hx hb hw0 in_K hown hK hP 0 rfl rfl 4 (by decide) (hw0 (.fieldLink R_K 31 "TextKeeper" "maker" "LTextKeeper$Maker;") (List.mem_of_getElem? (i := 91) rfl)) (fun _ h9 => h9) rfl d_K_isSound_7 ?_
    refine lv_aload_n hx hb d_K_isSound_10 rfl (lv_at hl 2 rfl) ?_
    refine lv_iload_n hx hb d_K_isSound_11 rfl (lv_at hl 3 rfl) ?_
    have hPc := hP.part (cx := [(hmk, .inr (2, [.ref hba, .ref hta, vp, .int a0])), (hta, .inr (1, [.ref hty, .int (nI k)])), (hty, .inl (cB, 256, .inl ((f)))), (hba, .inr (1, [.ref hby, .int (nI kb)])), (hby, .inl (cB, 256, .inl ((fb)))), (hdo, .inr (5, [.ref hra, .int (nI df), .int (nI dn)])), (hra, .inl (cR, 64, .inr (.inr (.inr (.inr ((rvA rv)))))))]) [1, 2, 3, 4, 5, 6, 7] rfl
    have hKc := hK.sub (tys' := [(cB, .byte), (cR, .object R_V)]) [1, 0] rfl
    have hDc := hD.part (cx := [(hmk, .inr (2, [.ref hba, .ref hta, vp, .int a0])), (hta, .inr (1, [.ref hty, .int (nI k)])), (hty, .inl (cB, 256, .inl ((f)))), (hba, .inr (1, [.ref hby, .int (nI kb)])), (hby, .inl (cB, 256, .inl ((fb)))), (hdo, .inr (5, [.ref hra, .int (nI df), .int (nI dn)])), (hra, .inl (cR, 64, .inr (.inr (.inr (.inr ((rvA rv)))))))]) [1, 2, 3, 4, 5, 6, 7] (by decide) rfl
    have hFc := va_freeP (cx := [(hmk, .inr (2, [.ref hba, .ref hta, vp, .int a0])), (hta, .inr (1, [.ref hty, .int (nI k)])), (hty, .inl (cB, 256, .inl ((f)))), (hba, .inr (1, [.ref hby, .int (nI kb)])), (hby, .inl (cB, 256, .inl ((fb)))), (hdo, .inr (5, [.ref hra, .int (nI df), .int (nI dn)])), (hra, .inl (cR, 64, .inr (.inr (.inr (.inr ((rvA rv)))))))]) hD hS hA [1, 2, 3, 4, 5, 6, 7] rfl
    refine va_callr (va_runV (As := [.ref hdo, .int (nI r9)]) (rest := []) ⟨hx, hb, hml, hown, hw0⟩ (g_makeAgain_S l dC dI s.heap.size hmk hta hty hba hby cB k (f) kb (fb) vp a0 T Bs hdo hra cR df dn _ pl r9 Y (by first | assumption | decide | omega) (by first | assumption | decide | omega) (by first | assumption | decide | omega) (by first | assumption | decide | omega) (by first | assumption | decide | omega) (by first | assumption | decide | omega) (by first | assumption | decide | omega) (by first | assumption | decide | omega) (by first | assumption | decide | omega)) (cwV 2 hw0 (gd_V 411 244 245 87 246 rfl rfl rfl rfl rfl) rfl rfl rfl (by decide +kernel) ⟨by decide +kernel, by decide +kernel⟩) (prV_E hPc hKc hDc hN (va_recv hKc hPc (ci := 2) (q0 := 0) rfl rfl)) rfl rfl hl.1 rfl (lv_room (Nat.le_of_ble_eq_true rfl)) d_K_isSound_12 ⟨by decide +kernel, by decide +kernel⟩) hS (fun q _ h => hFc q h) hFc (fun u ra_16 t H1 locs ht hvm hw hB hz1 hk1 hS => ?_)
    obtain ⟨hty2_17, hba2_18, hby2_19, k2_20, f2_21, kb2_22, fb2_23, vp2_24, a2_25, B2_26, ⟨hu_27_0, hu_27_1⟩, hP1, hK1, hD1⟩ := hB
    rw [ht] at hP1
    have hK1 := va_K.moved hvm.symm hK1
    try dsimp only at hw
    obtain ⟨hP, hD⟩ := va_joinP (wr := [(h0, .inr (0, [v_documents, v_buffer, v_fetched, v_compared, .ref hmk, v_writer, v_power, .int i_madeDocuments, .int i_fetchedSteps]))]) (rx := [(hmk, .inr (2, [.ref hba2_18, .ref ra_16, vp2_24, .int a2_25])), (ra_16, .inr (1, [.ref hty2_17, .int (nI k2_20)])), (hty2_17, .inl (cB, 256, .inl (f2_21))), (hba2_18, .inr (1, [.ref hby2_19, .int (nI kb2_22)])), (hby2_19, .inl (cB, 256, .inl (fb2_23))), (hdo, .inr (5, [.ref hra, .int (nI df), .int (nI dn)])), (hra, .inl (cR, 64, .inr (.inr (.inr (.inr ((rvA rv)))))))]) hP hD [1, 2, 3, 4, 5, 6, 7] [0] rfl rfl (by decide) (by decide) hk1 hFc hP1 hD1
    generalize H1 = H at hP hS ⊢
    replace hP : va_P (dC, dI) vwCl (([(h0, .inr (0, [v_documents, v_buffer, v_fetched, v_compared, .ref hmk, v_writer, v_power, .int i_madeDocuments, .int i_fetchedSteps])), (hmk, .inr (2, [.ref hba2_18, .ref ra_16, vp2_24, .int a2_25])), (ra_16, .inr (1, [.ref hty2_17, .int (nI k2_20)])), (hty2_17, .inl (cB, 256, .inl (f2_21))), (hba2_18, .inr (1, [.ref hby2_19, .int (nI kb2_22)])), (hby2_19, .inl (cB, 256, .inl (fb2_23))), (hdo, .inr (5, [.ref hra, .int (nI df), .int (nI dn)])), (hra, .inl (cR, 64, .inr (.inr (.inr (.inr ((rvA rv)))))))] : va_W) ++ pl) H := hP
    replace hD : va_D A (([(h0, .inr (0, [v_documents, v_buffer, v_fetched, v_compared, .ref hmk, v_writer, v_power, .int i_madeDocuments, .int i_fetchedSteps])), (hmk, .inr (2, [.ref hba2_18, .ref ra_16, vp2_24, .int a2_25])), (ra_16, .inr (1, [.ref hty2_17, .int (nI k2_20)])), (hty2_17, .inl (cB, 256, .inl (f2_21))), (hba2_18, .inr (1, [.ref hby2_19, .int (nI kb2_22)])), (hby2_19, .inl (cB, 256, .inl (fb2_23))), (hdo, .inr (5, [.ref hra, .int (nI df), .int (nI dn)])), (hra, .inl (cR, 64, .inr (.inr (.inr (.inr ((rvA rv)))))))] : va_W) ++ pl) := hD
    replace hK : va_K (dC, dI) vwCl [(cR, .object R_V), (cB, .byte)] s := hK
    have hYt := hu_27_0.1
    have hYk := hu_27_0.2
    · have hz8 := hdn
      refine lv_astore (lv' := [(4, .ref ra_16), (3, .ref a9), (0, .ref h0), (1, .ref hdo), (2, .int (nI r9))]) hx hb d_K_isSound_15 hl (by decide) rfl (fun ls hl => ?_)
      refine lv_aload_n hx hb d_K_isSound_17 rfl (lv_at hl 1 rfl) ?_
      refine lv_ifnull hx hb d_K_isSound_18 ?_
      refine lv_aload hx hb d_K_isSound_21 (lv_at hl 0 rfl) ?_
      refine lv_ifnull hx hb d_K_isSound_23 ?_
      refine lv_aload hx hb d_K_isSound_26 (lv_at hl 0 rfl) ?_
      have hPc := hP.sub (ws' := [(ra_16, .inr (1, [.ref hty2_17, .int (nI k2_20)])), (hty2_17, .inl (cB, 256, .inl ((f2_21))))]) [2, 3] rfl
      have hKc := hK.sub (tys' := [(cB, .byte)]) [1] rfl
      have hDc := hD.sub (ws' := [(ra_16, .inr (1, [.ref hty2_17, .int (nI k2_20)])), (hty2_17, .inl (cB, 256, .inl ((f2_21))))]) [2, 3] (by decide) rfl
      have hFc := va_free (wc := [(ra_16, .inr (1, [.ref hty2_17, .int (nI k2_20)])), (hty2_17, .inl (cB, 256, .inl ((f2_21))))]) hD hS hA [2, 3] rfl
      refine va_calli (va_runV (As := []) (rest := []) ⟨hx, hb, hml, hown, hw0⟩ (g_sum l dC dI H.size ra_16 hty2_17 cB k2_20 (f2_21) Y (by first | assumption | decide | omega) (by first | assumption | decide | omega)) (cwV 0 hw0 (gd_V 393 394 395 69 396 rfl rfl rfl rfl rfl) rfl rfl rfl (by decide +kernel) ⟨by decide +kernel, by decide +kernel⟩) (prV_E hPc hKc hDc hN (va_recv hKc hPc (ci := 1) (q0 := 0) rfl rfl)) rfl rfl hl.1 rfl (lv_room (Nat.le_of_ble_eq_true rfl)) d_K_isSound_28 ⟨by decide +kernel, by decide +kernel⟩) hS (fun q _ h => hFc q h) hFc (fun r_28 u t H1 locs ht hvm hw hB hz1 hk1 hS => ?_)
      obtain ⟨hP1, hK1, hD1⟩ := hB
      rw [ht] at hP1
      have hK1 := va_K.moved hvm.symm hK1
      try dsimp only at hw
      obtain ⟨hP, hD⟩ := va_joinQ (wr := [(h0, .inr (0, [v_documents, v_buffer, v_fetched, v_compared, .ref hmk, v_writer, v_power, .int i_madeDocuments, .int i_fetchedSteps])), (hmk, .inr (2, [.ref hba2_18, .ref ra_16, vp2_24, .int a2_25])), (hba2_18, .inr (1, [.ref hby2_19, .int (nI kb2_22)])), (hby2_19, .inl (cB, 256, .inl (fb2_23))), (hdo, .inr (5, [.ref hra, .int (nI df), .int (nI dn)])), (hra, .inl (cR, 64, .inr (.inr (.inr (.inr ((rvA rv)))))))]) (w1 := [(ra_16, .inr (1, [.ref hty2_17, .int (nI k2_20)])), (hty2_17, .inl (cB, 256, .inl ((f2_21))))]) hP hD [2, 3] [0, 1, 4, 5, 6, 7] rfl rfl (by decide) (by decide) hk1 hFc hP1 hD1
      generalize H1 = H at hP hS ⊢
      replace hP : va_P (dC, dI) vwCl (([(h0, .inr (0, [v_documents, v_buffer, v_fetched, v_compared, .ref hmk, v_writer, v_power, .int i_madeDocuments, .int i_fetchedSteps])), (hmk, .inr (2, [.ref hba2_18, .ref ra_16, vp2_24, .int a2_25])), (hba2_18, .inr (1, [.ref hby2_19, .int (nI kb2_22)])), (hby2_19, .inl (cB, 256, .inl (fb2_23))), (hdo, .inr (5, [.ref hra, .int (nI df), .int (nI dn)])), (hra, .inl (cR, 64, .inr (.inr (.inr (.inr ((rvA rv))))))), (ra_16, .inr (1, [.ref hty2_17, .int (nI k2_20)])), (hty2_17, .inl (cB, 256, .inl ((f2_21))))] : va_W) ++ pl) H := hP
      replace hD : va_D A (([(h0, .inr (0, [v_documents, v_buffer, v_fetched, v_compared, .ref hmk, v_writer, v_power, .int i_madeDocuments, .int i_fetchedSteps])), (hmk, .inr (2, [.ref hba2_18, .ref ra_16, vp2_24, .int a2_25])), (hba2_18, .inr (1, [.ref hby2_19, .int (nI kb2_22)])), (hby2_19, .inl (cB, 256, .inl (fb2_23))), (hdo, .inr (5, [.ref hra, .int (nI df), .int (nI dn)])), (hra, .inl (cR, 64, .inr (.inr (.inr (.inr ((rvA rv))))))), (ra_16, .inr (1, [.ref hty2_17, .int (nI k2_20)])), (hty2_17, .inl (cB, 256, .inl ((f2_21))))] : va_W) ++ pl) := hD
      replace hK : va_K (dC, dI) vwCl [(cR, .object R_V), (cB, .byte)] s := hK
      have hw_30 := hw
      obtain rfl : r_28 = sumL Y := hw_30
      · have hz5 := hdn
        obtain ⟨pl9, hp9⟩ := hpl r9 _ (by omega) hrv
        have hP := hP.perm (pl_take hp9)
        have hD := hD.perm (pl_take hp9)
        replace hP : va_P (dC, dI) vwCl (([(h0, .inr (0, [v_documents, v_buffer, v_fetched, v_compared, .ref hmk, v_writer, v_power, .int i_madeDocuments, .int i_fetchedSteps])), (hmk, .inr (2, [.ref hba2_18, .ref ra_16, vp2_24, .int a2_25])), (hba2_18, .inr (1, [.ref hby2_19, .int (nI kb2_22)])), (hby2_19, .inl (cB, 256, .inl (fb2_23))), (hdo, .inr (5, [.ref hra, .int (nI df), .int (nI dn)])), (hra, .inl (cR, 64, .inr (.inr (.inr (.inr ((rvA rv))))))), (ra_16, .inr (1, [.ref hty2_17, .int (nI k2_20)])), (hty2_17, .inl (cB, 256, .inl ((f2_21)))), (a9, .inr (6, [.ref pa9, .int au9, .int sm9])), (pa9, .inl (cB, np9, .inl (fp9)))] : va_W) ++ pl9) H := hP
        replace hD : va_D A (([(h0, .inr (0, [v_documents, v_buffer, v_fetched, v_compared, .ref hmk, v_writer, v_power, .int i_madeDocuments, .int i_fetchedSteps])), (hmk, .inr (2, [.ref hba2_18, .ref ra_16, vp2_24, .int a2_25])), (hba2_18, .inr (1, [.ref hby2_19, .int (nI kb2_22)])), (hby2_19, .inl (cB, 256, .inl (fb2_23))), (hdo, .inr (5, [.ref hra, .int (nI df), .int (nI dn)])), (hra, .inl (cR, 64, .inr (.inr (.inr (.inr ((rvA rv))))))), (ra_16, .inr (1, [.ref hty2_17, .int (nI k2_20)])), (hty2_17, .inl (cB, 256, .inl ((f2_21)))), (a9, .inr (6, [.ref pa9, .int au9, .int sm9])), (pa9, .inl (cB, np9, .inl (fp9)))] : va_W) ++ pl9) := hD
        refine lv_aload_n hx hb d_K_isSound_31 rfl (lv_at hl 1 rfl) ?_
        refine va_getN (D := (dC, dI)) (ci := 6) (v := .int sm9) (C := R_V) (T := F_V) (N := 3) hx hb hw0 in_V hown hK hP 8 rfl rfl 2 (by decide) (va_Nw.use rfl (hN.1 (.fieldLinkNest R_K 160 "TextKeeper$Revision" "sum" "I" "TextKeeper") (List.mem_of_getElem? (i := 19) rfl))) (fun _ h9 => h9) rfl d_K_isSound_32 ?_
        refine lv_icmp_ne (tgt := 42) hx hb d_K_isSound_35 (by decide) (fun c_31 => ?_) (fun c_31 => ?_)
        · refine lv_iconst (v := 0) hx hb d_K_isSound_42 (by decide) ?_
          replace hP := (hP.part (cx := [(h0, .inr (0, [v_documents, v_buffer, v_fetched, v_compared, .ref hmk, v_writer, v_power, .int i_madeDocuments, .int i_fetchedSteps])), (hmk, .inr (2, [.ref hba2_18, .ref ra_16, vp2_24, .int a2_25])), (ra_16, .inr (1, [.ref hty2_17, .int (nI k2_20)])), (hty2_17, .inl (cB, 256, .inl ((f2_21)))), (hba2_18, .inr (1, [.ref hby2_19, .int (nI kb2_22)])), (hby2_19, .inl (cB, 256, .inl (fb2_23))), (hdo, .inr (5, [.ref hra, .int (nI df), .int (nI dn)])), (hra, .inl (cR, 64, .inr (.inr (.inr (.inr ((rvA rv))))))), (a9, .inr (6, [.ref pa9, .int au9, .int sm9])), (pa9, .inl (cB, np9, .inl (fp9)))]) [0, 1, 6, 7, 2, 3, 4, 5, 8, 9] rfl).perm (pl_take (X := [(h0, .inr (0, [v_documents, v_buffer, v_fetched, v_compared, .ref hmk, v_writer, v_power, .int i_madeDocuments, .int i_fetchedSteps])), (hmk, .inr (2, [.ref hba2_18, .ref ra_16, vp2_24, .int a2_25])), (ra_16, .inr (1, [.ref hty2_17, .int (nI k2_20)])), (hty2_17, .inl (cB, 256, .inl ((f2_21)))), (hba2_18, .inr (1, [.ref hby2_19, .int (nI kb2_22)])), (hby2_19, .inl (cB, 256, .inl (fb2_23))), (hdo, .inr (5, [.ref hra, .int (nI df), .int (nI dn)])), (hra, .inl (cR, 64, .inr (.inr (.inr (.inr ((rvA rv)))))))]) hp9).symm
          replace hD := (hD.part (cx := [(h0, .inr (0, [v_documents, v_buffer, v_fetched, v_compared, .ref hmk, v_writer, v_power, .int i_madeDocuments, .int i_fetchedSteps])), (hmk, .inr (2, [.ref hba2_18, .ref ra_16, vp2_24, .int a2_25])), (ra_16, .inr (1, [.ref hty2_17, .int (nI k2_20)])), (hty2_17, .inl (cB, 256, .inl ((f2_21)))), (hba2_18, .inr (1, [.ref hby2_19, .int (nI kb2_22)])), (hby2_19, .inl (cB, 256, .inl (fb2_23))), (hdo, .inr (5, [.ref hra, .int (nI df), .int (nI dn)])), (hra, .inl (cR, 64, .inr (.inr (.inr (.inr ((rvA rv))))))), (a9, .inr (6, [.ref pa9, .int au9, .int sm9])), (pa9, .inl (cB, np9, .inl (fp9)))]) [0, 1, 6, 7, 2, 3, 4, 5, 8, 9] (by decide) rfl).perm (pl_take (X := [(h0, .inr (0, [v_documents, v_buffer, v_fetched, v_compared, .ref hmk, v_writer, v_power, .int i_madeDocuments, .int i_fetchedSteps])), (hmk, .inr (2, [.ref hba2_18, .ref ra_16, vp2_24, .int a2_25])), (ra_16, .inr (1, [.ref hty2_17, .int (nI k2_20)])), (hty2_17, .inl (cB, 256, .inl ((f2_21)))), (hba2_18, .inr (1, [.ref hby2_19, .int (nI kb2_22)])), (hby2_19, .inl (cB, 256, .inl (fb2_23))), (hdo, .inr (5, [.ref hra, .int (nI df), .int (nI dn)])), (hra, .inl (cR, 64, .inr (.inr (.inr (.inr ((rvA rv)))))))]) hp9).symm
          have hP9 := hP.part (cx := [(h0, .inr (0, [v_documents, v_buffer, v_fetched, v_compared, .ref hmk, v_writer, v_power, .int i_madeDocuments, .int i_fetchedSteps])), (hmk, .inr (2, [.ref hba2_18, .ref ra_16, vp2_24, .int a2_25])), (ra_16, .inr (1, [.ref hty2_17, .int (nI k2_20)])), (hty2_17, .inl (cB, 256, .inl (f2_21))), (hba2_18, .inr (1, [.ref hby2_19, .int (nI kb2_22)])), (hby2_19, .inl (cB, 256, .inl (fb2_23))), (hdo, .inr (5, [.ref hra, .int (nI df), .int (nI dn)])), (hra, .inl (cR, 64, .inr (.inr (.inr (.inr ((rvA rv)))))))]) [0, 1, 2, 3, 4, 5, 6, 7] rfl
          have hD9 := hD.part (cx := [(h0, .inr (0, [v_documents, v_buffer, v_fetched, v_compared, .ref hmk, v_writer, v_power, .int i_madeDocuments, .int i_fetchedSteps])), (hmk, .inr (2, [.ref hba2_18, .ref ra_16, vp2_24, .int a2_25])), (ra_16, .inr (1, [.ref hty2_17, .int (nI k2_20)])), (hty2_17, .inl (cB, 256, .inl (f2_21))), (hba2_18, .inr (1, [.ref hby2_19, .int (nI kb2_22)])), (hby2_19, .inl (cB, 256, .inl (fb2_23))), (hdo, .inr (5, [.ref hra, .int (nI df), .int (nI dn)])), (hra, .inl (cR, 64, .inr (.inr (.inr (.inr ((rvA rv)))))))]) [0, 1, 2, 3, 4, 5, 6, 7] (by decide) rfl
          have hK9 := hK.sub (tys' := [(cR, .object R_V), (cB, .byte)]) [0, 1] rfl
          exact W.zret (v := 0) (ty := .boolean) hx hb hr rfl (fun t ht hW => ⟨⟨0, (), rfl, (by rw [sndR_f hag hrv c_31]; rfl), ra_16, hty2_17, hba2_18, hby2_19, k2_20, f2_21, kb2_22, fb2_23, vp2_24, a2_25, B2_26, Y, ⟨hu_27_0, hu_27_1⟩, by rw [ht]; exact hP9, va_K.moved hW.alike hK9, hD9⟩, hS.F ht⟩) hS.2.2 d_K_isSound_43
        · refine lv_iconst (v := 1) hx hb d_K_isSound_38 (by decide) ?_
          refine lv_goto (tgt := 43) hx hb d_K_isSound_39 (by decide) ?_
          replace hP := (hP.part (cx := [(h0, .inr (0, [v_documents, v_buffer, v_fetched, v_compared, .ref hmk, v_writer, v_power, .int i_madeDocuments, .int i_fetchedSteps])), (hmk, .inr (2, [.ref hba2_18, .ref ra_16, vp2_24, .int a2_25])), (ra_16, .inr (1, [.ref hty2_17, .int (nI k2_20)])), (hty2_17, .inl (cB, 256, .inl ((f2_21)))), (hba2_18, .inr (1, [.ref hby2_19, .int (nI kb2_22)])), (hby2_19, .inl (cB, 256, .inl (fb2_23))), (hdo, .inr (5, [.ref hra, .int (nI df), .int (nI dn)])), (hra, .inl (cR, 64, .inr (.inr (.inr (.inr ((rvA rv))))))), (a9, .inr (6, [.ref pa9, .int au9, .int sm9])), (pa9, .inl (cB, np9, .inl (fp9)))]) [0, 1, 6, 7, 2, 3, 4, 5, 8, 9] rfl).perm (pl_take (X := [(h0, .inr (0, [v_documents, v_buffer, v_fetched, v_compared, .ref hmk, v_writer, v_power, .int i_madeDocuments, .int i_fetchedSteps])), (hmk, .inr (2, [.ref hba2_18, .ref ra_16, vp2_24, .int a2_25])), (ra_16, .inr (1, [.ref hty2_17, .int (nI k2_20)])), (hty2_17, .inl (cB, 256, .inl ((f2_21)))), (hba2_18, .inr (1, [.ref hby2_19, .int (nI kb2_22)])), (hby2_19, .inl (cB, 256, .inl (fb2_23))), (hdo, .inr (5, [.ref hra, .int (nI df), .int (nI dn)])), (hra, .inl (cR, 64, .inr (.inr (.inr (.inr ((rvA rv)))))))]) hp9).symm
          replace hD := (hD.part (cx := [(h0, .inr (0, [v_documents, v_buffer, v_fetched, v_compared, .ref hmk, v_writer, v_power, .int i_madeDocuments, .int i_fetchedSteps])), (hmk, .inr (2, [.ref hba2_18, .ref ra_16, vp2_24, .int a2_25])), (ra_16, .inr (1, [.ref hty2_17, .int (nI k2_20)])), (hty2_17, .inl (cB, 256, .inl ((f2_21)))), (hba2_18, .inr (1, [.ref hby2_19, .int (nI kb2_22)])), (hby2_19, .inl (cB, 256, .inl (fb2_23))), (hdo, .inr (5, [.ref hra, .int (nI df), .int (nI dn)])), (hra, .inl (cR, 64, .inr (.inr (.inr (.inr ((rvA rv))))))), (a9, .inr (6, [.ref pa9, .int au9, .int sm9])), (pa9, .inl (cB, np9, .inl (fp9)))]) [0, 1, 6, 7, 2, 3, 4, 5, 8, 9] (by decide) rfl).perm (pl_take (X := [(h0, .inr (0, [v_documents, v_buffer, v_fetched, v_compared, .ref hmk, v_writer, v_power, .int i_madeDocuments, .int i_fetchedSteps])), (hmk, .inr (2, [.ref hba2_18, .ref ra_16, vp2_24, .int a2_25])), (ra_16, .inr (1, [.ref hty2_17, .int (nI k2_20)])), (hty2_17, .inl (cB, 256, .inl ((f2_21)))), (hba2_18, .inr (1, [.ref hby2_19, .int (nI kb2_22)])), (hby2_19, .inl (cB, 256, .inl (fb2_23))), (hdo, .inr (5, [.ref hra, .int (nI df), .int (nI dn)])), (hra, .inl (cR, 64, .inr (.inr (.inr (.inr ((rvA rv)))))))]) hp9).symm
          have hP9 := hP.part (cx := [(h0, .inr (0, [v_documents, v_buffer, v_fetched, v_compared, .ref hmk, v_writer, v_power, .int i_madeDocuments, .int i_fetchedSteps])), (hmk, .inr (2, [.ref hba2_18, .ref ra_16, vp2_24, .int a2_25])), (ra_16, .inr (1, [.ref hty2_17, .int (nI k2_20)])), (hty2_17, .inl (cB, 256, .inl (f2_21))), (hba2_18, .inr (1, [.ref hby2_19, .int (nI kb2_22)])), (hby2_19, .inl (cB, 256, .inl (fb2_23))), (hdo, .inr (5, [.ref hra, .int (nI df), .int (nI dn)])), (hra, .inl (cR, 64, .inr (.inr (.inr (.inr ((rvA rv)))))))]) [0, 1, 2, 3, 4, 5, 6, 7] rfl
          have hD9 := hD.part (cx := [(h0, .inr (0, [v_documents, v_buffer, v_fetched, v_compared, .ref hmk, v_writer, v_power, .int i_madeDocuments, .int i_fetchedSteps])), (hmk, .inr (2, [.ref hba2_18, .ref ra_16, vp2_24, .int a2_25])), (ra_16, .inr (1, [.ref hty2_17, .int (nI k2_20)])), (hty2_17, .inl (cB, 256, .inl (f2_21))), (hba2_18, .inr (1, [.ref hby2_19, .int (nI kb2_22)])), (hby2_19, .inl (cB, 256, .inl (fb2_23))), (hdo, .inr (5, [.ref hra, .int (nI df), .int (nI dn)])), (hra, .inl (cR, 64, .inr (.inr (.inr (.inr ((rvA rv)))))))]) [0, 1, 2, 3, 4, 5, 6, 7] (by decide) rfl
          have hK9 := hK.sub (tys' := [(cR, .object R_V), (cB, .byte)]) [0, 1] rfl
          exact W.zret (v := 1) (ty := .boolean) hx hb hr rfl (fun t ht hW => ⟨⟨1, (), rfl, (by rw [sndR_t hag hrv c_31]; rfl), ra_16, hty2_17, hba2_18, hby2_19, k2_20, f2_21, kb2_22, fb2_23, vp2_24, a2_25, B2_26, Y, ⟨hu_27_0, hu_27_1⟩, by rw [ht]; exact hP9, va_K.moved hW.alike hK9, hD9⟩, hS.F ht⟩) hS.2.2 d_K_isSound_43
