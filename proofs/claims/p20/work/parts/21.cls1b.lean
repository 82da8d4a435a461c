set_option maxHeartbeats 4000000 in
set_option maxRecDepth 100000 in
theorem g_make_T (l : Launch) (dC : Nat → ClassId) (dI : Nat → Nat → Nat) (sz : Nat) (h0 : Nat) (v_buffer : Value) (v_fetched : Value) (v_compared : Value) (v_maker : Value) (v_writer : Value) (i_fetchedSteps : Int32) (hp : Nat) (go : Option Nat) (wl : Int32) (hd : Nat) (cD : ClassId) (fD : Nat → Option Nat) (nd : Nat) (hg : ∀ w, go = some w → wl = nI w ∧ w < 2 ^ 31) (hle : ∀ w, go = some w → 1 ≤ w) (hnd : nd < 8) : Met l y_K_make k_K_make ({ frames := 2, cells := 2, slots := 67, locals := 42 } : Room) (va_Pc [.ref h0] (pc_E (dC, dI) [(h0, .inr (0, [.ref hd, v_buffer, v_fetched, v_compared, v_maker, v_writer, .ref hp, .int (nI nd), .int i_fetchedSteps])), (hp, .inr (4, [.int 0, .int (bI go.isSome), .int wl])), (hd, .inl (cD, 8, .inr (.inr (.inr (.inr (fD))))))] [(cD, .object R_D)] sz)) (va_Qi (fun (r : Int32) (_ : Unit) => r = nI nd) (fun (_ : Unit) t => ∃ (wl2 : Int32) (hdo : Nat) (hra : Nat) (cR : ClassId), (∀ w, go = some w → wl2 = nI (w - 1)) ∧ at_E (dC, dI) (va_A [(h0, .inr (0, [.ref hd, v_buffer, v_fetched, v_compared, v_maker, v_writer, .ref hp, .int (nI nd), .int i_fetchedSteps])), (hp, .inr (4, [.int 0, .int (bI go.isSome), .int wl])), (hd, .inl (cD, 8, .inr (.inr (.inr (.inr (fD))))))] sz) [(h0, .inr (0, [.ref hd, v_buffer, v_fetched, v_compared, v_maker, v_writer, .ref hp, .int (nI (nd + 1)), .int i_fetchedSteps])), (hp, .inr (4, [.int 0, .int (bI go.isSome), .int wl2])), (hd, .inl (cD, 8, .inr (.inr (.inr (.inr ((va_up fD nd (some hdo)))))))), (hdo, .inr (5, [.ref hra, .int 0, .int 0])), (hra, .inl (cR, 64, .inr (.inr (.inr (.inr (fun _ => none))))))] [(cD, .object R_D), (cR, .object R_V)] t) (va_A [(h0, .inr (0, [.ref hd, v_buffer, v_fetched, v_compared, v_maker, v_writer, .ref hp, .int (nI nd), .int i_fetchedSteps])), (hp, .inr (4, [.int 0, .int (bI go.isSome), .int wl])), (hd, .inl (cD, 8, .inr (.inr (.inr (.inr (fD))))))] sz)) 2 67 (va_A [(h0, .inr (0, [.ref hd, v_buffer, v_fetched, v_compared, v_maker, v_writer, .ref hp, .int (nI nd), .int i_fetchedSteps])), (hp, .inr (4, [.int 0, .int (bI go.isSome), .int wl])), (hd, .inl (cD, 8, .inr (.inr (.inr (.inr (fD))))))] sz) := by
  refine Met.ofW (cc := prog_1_method_4_code) (maxL := 2) (ret := (some .int)) (by decide) rfl ?_
  intro p e s m args below meth c s₁ B hml hv
  obtain ⟨rfl, hsz, hP, hK, hD0, hN⟩ := hv
  have hx := B.exec
  have hb := B.bytes
  have hr := B.returns
  have hts := atoms_spec (ws := k_K_make) B.pre
  have hw0 : ∀ w ∈ w0, w.before _ s = true := fun w h => hts w (List.mem_cons_of_mem _ h)
  have hown : s.vm.findClass R_K = some m.cls := findClass_of_methodNamed B.named
  have hlocks := B.notSynchronized
  subst hsz
  have hD := hD0.self (sz := s.heap.size)
  generalize hAe : va_A [(h0, .inr (0, [.ref hd, v_buffer, v_fetched, v_compared, v_maker, v_writer, .ref hp, .int (nI nd), .int i_fetchedSteps])), (hp, .inr (4, [.int 0, .int (bI go.isSome), .int wl])), (hd, .inl (cD, 8, .inr (.inr (.inr (.inr (fD))))))] s.heap.size = A at hD ⊢
  have hA : ∀ q : Nat, s.heap.size ≤ q → A q := fun q h => by rw [← hAe]; exact Or.inr h
  have hS : va_S A s.heap s.heap [] := va_S.rf
  have hP : va_P (dC, dI) vwCl [(h0, .inr (0, [.ref hd, v_buffer, v_fetched, v_compared, v_maker, v_writer, .ref hp, .int (nI nd), .int i_fetchedSteps])), (hp, .inr (4, [.int 0, .int (bI go.isSome), .int wl])), (hd, .inl (cD, 8, .inr (.inr (.inr (.inr (fD))))))] s.heap := hP
  have hl := lv_entry ([.ref h0]) (n := 2) (Nat.le_of_ble_eq_true rfl)
  rw [lg_entry_eq]
  generalize (lg_sl ([.ref h0]) ++ List.replicate (2 - (lg_sl ([.ref h0])).length) Slot.unset).toArray = ls at hl ⊢
  have hl : lv_has ls 2 [(0, .ref h0)] := hl
  refine lv_aload_n hx hb d_K_make_0 rfl (lv_at hl 0 rfl) ?_
  have hPc := hP.sub (ws' := [(h0, .inr (0, [.ref hd, v_buffer, v_fetched, v_compared, v_maker, v_writer, .ref hp, .int (nI nd), .int i_fetchedSteps])), (hp, .inr (4, [.int 0, .int (bI go.isSome), .int wl]))]) [0, 1] rfl
  have hKc := hK.sub (tys' := []) [] rfl
  refine ps_v (va_runV (As := []) (rest := []) ⟨hx, hb, hml, hown, hw0⟩ (g_needPower l dC dI h0 (.ref hd) v_buffer v_fetched v_compared v_maker v_writer (nI nd) i_fetchedSteps hp (bI go.isSome) wl) (cwV 0 hw0 (gd_V 322 323 324 226 325 rfl rfl rfl rfl rfl) rfl rfl rfl (by decide +kernel) ⟨by decide +kernel, by decide +kernel⟩) (prV_R hPc hKc hN (va_recv hKc hPc (ci := 0) (q0 := 0) rfl rfl)) rfl rfl hl.1 rfl (lv_room (Nat.le_of_ble_eq_true rfl)) d_K_make_1 ⟨by decide +kernel, by decide +kernel⟩) ?_
  refine lv_aload_n hx hb d_K_make_4 rfl (lv_at hl 0 rfl) ?_
  refine va_get (D := (dC, dI)) (ci := 0) (v := .int (nI nd)) (C := R_K) (T := F_K) (N := 9) hx hb hw0 in_K hown hK hP 0 rfl rfl 7 (by decide) (hw0 (.fieldLink R_K 49 "TextKeeper" "madeDocuments" "I") (List.mem_of_getElem? (i := 106) rfl)) (fun _ h9 => h9) rfl d_K_make_5 ?_
  refine lv_bipush (v := 8) hx hb d_K_make_8 (by decide +kernel) ?_
  refine lv_icmp_lt (tgt := 15) hx hb d_K_make_10 (by decide) (fun c_1 => ?_) (fun c_1 => absurd (nI_lt hnd (by decide)) c_1)
  refine lv_aload_n hx hb d_K_make_15 rfl (lv_at hl 0 rfl) ?_
  refine lv_iconst (v := 1) hx hb d_K_make_16 (by decide) ?_
  have hPc := hP.sub (ws' := [(h0, .inr (0, [.ref hd, v_buffer, v_fetched, v_compared, v_maker, v_writer, .ref hp, .int (nI nd), .int i_fetchedSteps])), (hp, .inr (4, [.int 0, .int (bI go.isSome), .int wl]))]) [0, 1] rfl
  have hKc := hK.sub (tys' := []) [] rfl
  have hDc := hD.sub (ws' := [(h0, .inr (0, [.ref hd, v_buffer, v_fetched, v_compared, v_maker, v_writer, .ref hp, .int (nI nd), .int i_fetchedSteps])), (hp, .inr (4, [.int 0, .int (bI go.isSome), .int wl]))]) [0, 1] (by decide) rfl
  have hFc := va_free (wc := [(h0, .inr (0, [.ref hd, v_buffer, v_fetched, v_compared, v_maker, v_writer, .ref hp, .int (nI nd), .int i_fetchedSteps])), (hp, .inr (4, [.int 0, .int (bI go.isSome), .int wl]))]) hD hS hA [0, 1] rfl
  refine va_callv (va_runV (As := [.int 1]) (rest := []) ⟨hx, hb, hml, hown, hw0⟩ (g_spend l dC dI s.heap.size h0 (.ref hd) v_buffer v_fetched v_compared v_maker v_writer (nI nd) i_fetchedSteps hp _ wl 1 (by first | assumption | decide | omega) (by first | assumption | decide | omega) (by first | assumption | decide | omega)) (cwV 1 hw0 (gd_V 354 355 356 226 357 rfl rfl rfl rfl rfl) rfl rfl rfl (by decide +kernel) ⟨by decide +kernel, by decide +kernel⟩) (prV_E hPc hKc hDc hN (va_recv hKc hPc (ci := 0) (q0 := 0) rfl rfl)) rfl rfl hl.1 rfl (lv_room (Nat.le_of_ble_eq_true rfl)) d_K_make_17 ⟨by decide +kernel, by decide +kernel⟩) hS (fun q _ h => hFc q h) hFc (fun u t H1 locs ht hvm hw hB hz1 hk1 hS => ?_)
  obtain ⟨wl2_2, hu_3, hP1, hK1, hD1⟩ := hB
  rw [ht] at hP1
  have hK1 := va_K.moved hvm.symm hK1
  try dsimp only at hw
  obtain ⟨hP, hD⟩ := va_join (wr := [(hd, .inl (cD, 8, .inr (.inr (.inr (.inr (fD))))))]) (w1 := [(h0, .inr (0, [.ref hd, v_buffer, v_fetched, v_compared, v_maker, v_writer, .ref hp, .int (nI nd), .int i_fetchedSteps])), (hp, .inr (4, [.int 0, .int (bI go.isSome), .int wl2_2]))]) hP hD [0, 1] [2] rfl rfl (by decide) (by decide) hk1 hFc hP1 hD1
  generalize H1 = H at hP hS ⊢
  replace hP : va_P (dC, dI) vwCl [(hd, .inl (cD, 8, .inr (.inr (.inr (.inr (fD)))))), (h0, .inr (0, [.ref hd, v_buffer, v_fetched, v_compared, v_maker, v_writer, .ref hp, .int (nI nd), .int i_fetchedSteps])), (hp, .inr (4, [.int 0, .int (bI go.isSome), .int wl2_2]))] H := hP
  replace hD : va_D A [(hd, .inl (cD, 8, .inr (.inr (.inr (.inr (fD)))))), (h0, .inr (0, [.ref hd, v_buffer, v_fetched, v_compared, v_maker, v_writer, .ref hp, .int (nI nd), .int i_fetchedSteps])), (hp, .inr (4, [.int 0, .int (bI go.isSome), .int wl2_2]))] := hD
  replace hK : va_K (dC, dI) vwCl [(cD, .object R_D)] s := hK
  · have hz9 := hnd
    refine lv_aload_n hx hb d_K_make_20 rfl (lv_at hl 0 rfl) ?_
    refine va_get (D := (dC, dI)) (ci := 0) (v := .int (nI nd)) (C := R_K) (T := F_K) (N := 9) hx hb hw0 in_K hown hK hP 1 rfl rfl 7 (by decide) (hw0 (.fieldLink R_K 49 "TextKeeper" "madeDocuments" "I") (List.mem_of_getElem? (i := 106) rfl)) (fun _ h9 => h9) rfl d_K_make_21 ?_
    refine lv_istore_n (lv' := [(1, .int (nI nd)), (0, .ref h0)]) hx hb d_K_make_24 rfl hl (by decide) rfl (fun ls hl => ?_)
    refine lv_aload_n hx hb d_K_make_25 rfl (lv_at hl 1 rfl) ?_
    refine va_get (D := (dC, dI)) (ci := 0) (v := .ref hd) (C := R_K) (T := F_K) (N := 9) hx hb hw0 in_K hown hK hP 1 rfl rfl 0 (by decide) (hw0 (.fieldLink R_K 11 "TextKeeper" "documents" "[LTextKeeper$Document;") (List.mem_of_getElem? (i := 79) rfl)) (fun _ h9 => h9) rfl d_K_make_26 ?_
    refine lv_iload_n hx hb d_K_make_29 rfl (lv_at hl 0 rfl) ?_
    refine va_new (ci := 5) (fs := [.null, .int 0, .int 0]) (C := R_D) (T := F_D) (N := 3) hx hb hw0 in_D ft_D tk_D hown (hw0 (.classLink R_K 9 R_D) (List.mem_of_getElem? (i := 78) rfl)) (hw0 (.instantiable R_D 3) (List.mem_of_getElem? (i := 358) rfl)) (hw0 (.initialized R_D) (List.mem_of_getElem? (i := 233) rfl)) hK hP hD hS hA rfl (fun j hj => nw_D j hj) (by decide +kernel) (by decide +kernel) d_K_make_30 (fun q_4 H hP hD hS => ?_)
    replace hP : va_P (dC, dI) vwCl [(hd, .inl (cD, 8, .inr (.inr (.inr (.inr (fD)))))), (h0, .inr (0, [.ref hd, v_buffer, v_fetched, v_compared, v_maker, v_writer, .ref hp, .int (nI nd), .int i_fetchedSteps])), (hp, .inr (4, [.int 0, .int (bI go.isSome), .int wl2_2])), (q_4, .inr (5, [.null, .int 0, .int 0]))] H := hP
    replace hD : va_D A [(hd, .inl (cD, 8, .inr (.inr (.inr (.inr (fD)))))), (h0, .inr (0, [.ref hd, v_buffer, v_fetched, v_compared, v_maker, v_writer, .ref hp, .int (nI nd), .int i_fetchedSteps])), (hp, .inr (4, [.int 0, .int (bI go.isSome), .int wl2_2])), (q_4, .inr (5, [.null, .int 0, .int 0]))] := hD
    refine W.widen (k := 1) (n := 3) (by decide +kernel) (by decide +kernel) ?_
    refine lv_dup hx hb d_K_make_33 rfl ?_
    have hPc := hP.sub (ws' := [(q_4, .inr (5, [.null, .int 0, .int 0]))]) [3] rfl
    have hKc := hK.sub (tys' := []) [] rfl
    have hDc := hD.sub (ws' := [(q_4, .inr (5, [.null, .int 0, .int 0]))]) [3] (by decide) rfl
    have hFc := va_free (wc := [(q_4, .inr (5, [.null, .int 0, .int 0]))]) hD hS hA [3] rfl
    refine va_callv (va_runI (As := []) (rest := [.ref q_4, .int (nI nd), .ref hd]) ⟨hx, hb, hml, hown, hw0⟩ (g_initD l dC dI H.size q_4) (cwI 0 hw0 (gd_I 359 rfl) rfl rfl rfl (hw0 (.initialized R_D) (List.mem_of_getElem? (i := 233) rfl)) (hw0 (.methodLink R_K 73 y_D_init) (List.mem_of_getElem? (i := 360) rfl)) (hw0 (.instanceMethod y_D_init) (List.mem_of_getElem? (i := 361) rfl)) rfl (by decide +kernel) ⟨by decide +kernel, by decide +kernel⟩) (prS_E hPc hKc hDc hN) rfl rfl hl.1 rfl (lv_room (Nat.le_of_ble_eq_true rfl)) d_K_make_34 ⟨by decide +kernel, by decide +kernel⟩) hS (fun q _ h => hFc q h) hFc (fun u t H1 locs ht hvm hw hB hz1 hk1 hS => ?_)
    obtain ⟨hra_5, cR_6, hP1, hK1, hD1⟩ := hB
    rw [ht] at hP1
    have hK1 := va_K.moved hvm.symm hK1
    try dsimp only at hw
    obtain ⟨hP, hD⟩ := va_join (wr := [(hd, .inl (cD, 8, .inr (.inr (.inr (.inr (fD)))))), (h0, .inr (0, [.ref hd, v_buffer, v_fetched, v_compared, v_maker, v_writer, .ref hp, .int (nI nd), .int i_fetchedSteps])), (hp, .inr (4, [.int 0, .int (bI go.isSome), .int wl2_2]))]) (w1 := [(q_4, .inr (5, [.ref hra_5, .int 0, .int 0])), (hra_5, .inl (cR_6, 64, .inr (.inr (.inr (.inr (fun _ => none))))))]) hP hD [3] [0, 1, 2] rfl rfl (by decide) (by decide) hk1 hFc hP1 hD1
    have hK := hK.app (hK1.sub (tys' := [(cR_6, .object R_V)]) [0] rfl)
    generalize H1 = H at hP hS ⊢
    replace hP : va_P (dC, dI) vwCl [(hd, .inl (cD, 8, .inr (.inr (.inr (.inr (fD)))))), (h0, .inr (0, [.ref hd, v_buffer, v_fetched, v_compared, v_maker, v_writer, .ref hp, .int (nI nd), .int i_fetchedSteps])), (hp, .inr (4, [.int 0, .int (bI go.isSome), .int wl2_2])), (q_4, .inr (5, [.ref hra_5, .int 0, .int 0])), (hra_5, .inl (cR_6, 64, .inr (.inr (.inr (.inr (fun _ => none))))))] H := hP
    replace hD : va_D A [(hd, .inl (cD, 8, .inr (.inr (.inr (.inr (fD)))))), (h0, .inr (0, [.ref hd, v_buffer, v_fetched, v_compared, v_maker, v_writer, .ref hp, .int (nI nd), .int i_fetchedSteps])), (hp, .inr (4, [.int 0, .int (bI go.isSome), .int wl2_2])), (q_4, .inr (5, [.ref hra_5, .int 0, .int 0])), (hra_5, .inl (cR_6, 64, .inr (.inr (.inr (.inr (fun _ => none))))))] := hD
    replace hK : va_K (dC, dI) vwCl [(cD, .object R_D), (cR_6, .object R_V)] s := hK
    refine W.widen (k := 2) (n := 67) (by decide +kernel) (by decide +kernel) ?_
    refine va_astq hx hb hK hP hD hS 0 0 3 5 rfl rfl rfl rfl (vp_in_nI hnd (by decide)) d_K_make_37 (fun H locs hP hD hS => ?_)
    replace hP : va_P (dC, dI) vwCl [(hd, .inl (cD, 8, .inr (.inr (.inr (.inr (va_up (fD) (Int32.toNatClampNeg (nI nd)) (some q_4))))))), (h0, .inr (0, [.ref hd, v_buffer, v_fetched, v_compared, v_maker, v_writer, .ref hp, .int (nI nd), .int i_fetchedSteps])), (hp, .inr (4, [.int 0, .int (bI go.isSome), .int wl2_2])), (q_4, .inr (5, [.ref hra_5, .int 0, .int 0])), (hra_5, .inl (cR_6, 64, .inr (.inr (.inr (.inr (fun _ => none))))))] H := hP
    replace hD : va_D A [(hd, .inl (cD, 8, .inr (.inr (.inr (.inr (va_up (fD) (Int32.toNatClampNeg (nI nd)) (some q_4))))))), (h0, .inr (0, [.ref hd, v_buffer, v_fetched, v_compared, v_maker, v_writer, .ref hp, .int (nI nd), .int i_fetchedSteps])), (hp, .inr (4, [.int 0, .int (bI go.isSome), .int wl2_2])), (q_4, .inr (5, [.ref hra_5, .int 0, .int 0])), (hra_5, .inl (cR_6, 64, .inr (.inr (.inr (.inr (fun _ => none))))))] := hD
    have eS : va_up (fD) (Int32.toNatClampNeg (nI nd)) (some q_4) = va_up fD nd (some q_4) := by rw [nI_clamp (by omega)]
    rw [eS] at hP hD
    refine lv_aload_n hx hb d_K_make_38 rfl (lv_at hl 1 rfl) ?_
    refine lv_dup hx hb d_K_make_39 rfl ?_
    refine va_get (D := (dC, dI)) (ci := 0) (v := .int (nI nd)) (C := R_K) (T := F_K) (N := 9) hx hb hw0 in_K hown hK hP 1 rfl rfl 7 (by decide) (hw0 (.fieldLink R_K 49 "TextKeeper" "madeDocuments" "I") (List.mem_of_getElem? (i := 106) rfl)) (fun _ h9 => h9) rfl d_K_make_40 ?_
    refine lv_iconst (v := 1) hx hb d_K_make_43 (by decide) ?_
    refine lv_iadd hx hb d_K_make_44 ?_
    refine lv_topi (fun x_8 ex_8 => ?_)
    obtain rfl : x_8 = (nI (nd + 1)) := by rw [ex_8]; exact nI_1 nd
    clear ex_8
    refine va_put (D := (dC, dI)) (ci := 0) (v := .int (nI (nd + 1))) (ty := .int) (C := R_K) (T := F_K) (N := 9) hx hb hw0 in_K ft_K tk_K nk_K hown hK hP hD hS 1 rfl rfl 7 (by decide) (hw0 (.fieldLink R_K 49 "TextKeeper" "madeDocuments" "I") (List.mem_of_getElem? (i := 106) rfl)) (fun _ h9 => h9) rfl (by decide +kernel) rfl rfl (Nat.le_of_ble_eq_true rfl) d_K_make_45 (fun H locs hP hD hS => ?_)
    replace hP : va_P (dC, dI) vwCl [(hd, .inl (cD, 8, .inr (.inr (.inr (.inr ((va_up fD nd (some q_4)))))))), (h0, .inr (0, [.ref hd, v_buffer, v_fetched, v_compared, v_maker, v_writer, .ref hp, .int (nI (nd + 1)), .int i_fetchedSteps])), (hp, .inr (4, [.int 0, .int (bI go.isSome), .int wl2_2])), (q_4, .inr (5, [.ref hra_5, .int 0, .int 0])), (hra_5, .inl (cR_6, 64, .inr (.inr (.inr (.inr (fun _ => none))))))] H := hP
    replace hD : va_D A [(hd, .inl (cD, 8, .inr (.inr (.inr (.inr ((va_up fD nd (some q_4)))))))), (h0, .inr (0, [.ref hd, v_buffer, v_fetched, v_compared, v_maker, v_writer, .ref hp, .int (nI (nd + 1)), .int i_fetchedSteps])), (hp, .inr (4, [.int 0, .int (bI go.isSome), .int wl2_2])), (q_4, .inr (5, [.ref hra_5, .int 0, .int 0])), (hra_5, .inl (cR_6, 64, .inr (.inr (.inr (.inr (fun _ => none))))))] := hD
    refine lv_iload_n hx hb d_K_make_48 rfl (lv_at hl 0 rfl) ?_
    have hP9 := hP.sub (ws' := [(h0, .inr (0, [.ref hd, v_buffer, v_fetched, v_compared, v_maker, v_writer, .ref hp, .int (nI (nd + 1)), .int i_fetchedSteps])), (hp, .inr (4, [.int 0, .int (bI go.isSome), .int wl2_2])), (hd, .inl (cD, 8, .inr (.inr (.inr (.inr ((va_up fD nd (some q_4)))))))), (q_4, .inr (5, [.ref hra_5, .int 0, .int 0])), (hra_5, .inl (cR_6, 64, .inr (.inr (.inr (.inr (fun _ => none))))))]) [1, 2, 0, 3, 4] rfl
    have hD9 := hD.sub (ws' := [(h0, .inr (0, [.ref hd, v_buffer, v_fetched, v_compared, v_maker, v_writer, .ref hp, .int (nI (nd + 1)), .int i_fetchedSteps])), (hp, .inr (4, [.int 0, .int (bI go.isSome), .int wl2_2])), (hd, .inl (cD, 8, .inr (.inr (.inr (.inr ((va_up fD nd (some q_4)))))))), (q_4, .inr (5, [.ref hra_5, .int 0, .int 0])), (hra_5, .inl (cR_6, 64, .inr (.inr (.inr (.inr (fun _ => none))))))]) [1, 2, 0, 3, 4] (by decide) rfl
    have hK9 := hK.sub (tys' := [(cD, .object R_D), (cR_6, .object R_V)]) [0, 1] rfl
    exact W.iret (v := (nI nd)) hx hb hr (fun t ht hW => ⟨⟨(nI nd), (), rfl, rfl, wl2_2, q_4, hra_5, cR_6, hu_3, by rw [ht]; exact hP9, va_K.moved hW.alike hK9, hD9⟩, hS.F ht⟩) hS.2.2 d_K_make_49
