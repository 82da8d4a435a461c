set_option maxHeartbeats 4000000 in
set_option maxRecDepth 100000 in
theorem u_verify (l : Launch) (dC : Nat → ClassId) (dI : Nat → Nat → Nat) (sz : Nat) (h0 : Nat) (cB cI cL cZ : ClassId) (y : MY) (σ : Sg) (a1 : Int32) (hs : sOk σ) (hm : mOk σ y) : Met l y_O_verify k_O_verify ({ frames := 4, cells := 0, slots := 0, locals := 92 } : Room) (va_Pc [.ref h0, .int a1] (pc_E (dC, dI) (mW h0 cB cI cL cZ y) (mT cB cI cL cZ) sz)) (va_Qi (fun (r : Int32) (_ : Unit) => (sVerify σ a1).2.1 = 0 → r = (sVerify σ a1).2.2) (fun (_ : Unit) t => ∃ y2 : MY, (mOk (sVerify σ a1).1 y2 ∧ y2.z_thrown = (sVerify σ a1).2.1) ∧ at_E (dC, dI) (va_A (mW h0 cB cI cL cZ y) sz) (mW h0 cB cI cL cZ y2) (mT cB cI cL cZ) t) (va_A (mW h0 cB cI cL cZ y) sz)) 0 0 (va_A (mW h0 cB cI cL cZ y) sz) := by
  obtain ⟨hbu, hgo, hfi, hma, hln, hau, hsu, hrow, hmade, hbase, htx9, hot, hpc, z_thrown, z_down, z_lasts, z_size, z_documents, z_madeSize, z_baseSize, z_textSize, z_textSteps, z_otherSize, z_pieceSize, z_at, z_end, z_value, fbu, fg, ff, fm, fl, fa, fs, fr, f, fb, ft, fo, fp⟩ := y
  have hm_dw : z_down = bI σ.down := hm.dw
  have hm_la : z_lasts = vI σ.go := hm.la
  have hm_sz : z_size = nI σ.buf.length := hm.sz
  have hm_bf : tx σ.buf σ.buf.length fbu := hm.bf
  have hm_nd : z_documents = nI σ.nd := hm.nd
  have hm_gn : ∀ i, i < 8 → ((∃ d, σ.ds i = some d) → fg i = 0) ∧ (i < σ.nd → σ.ds i = none → ¬ fg i = 0) ∧ (σ.nd ≤ i → fg i = 0) := hm.gn
  have hm_fm : ∀ i, i < 8 → (∀ d, σ.ds i = some d → ff i = nI d.first ∧ fm i = nI d.count) ∧ (σ.nd ≤ i → ff i = 0 ∧ fm i = 0) := hm.fm
  have hm_ln : ∀ j, j < 512 → fl j = vI (lnq (pqS σ.ds) j) := hm.ln
  have hm_rw : rowOk (pqS σ.ds) fr := hm.rw
  have hm_au : ∀ i j d r, i < 8 → j < 64 → σ.ds i = some d → d.rv j = some r → fa (64 * i + j) = r.au ∧ fs (64 * i + j) = r.sm := hm.au
  have hm_tq : (z_textSize = nI σ.fet.length ∧ tx σ.fet σ.fet.length ft) ∨ (z_textSize = (-1) ∧ σ.fet = []) := hm.tq
  have hm_st : z_textSteps = σ.stp := hm.st
  clear hm
  obtain rfl : z_size = _ := hm_sz
  obtain rfl : z_lasts = _ := hm_la
  obtain rfl : z_documents = _ := hm_nd
  obtain rfl : z_textSteps = _ := hm_st
  have hm_sz : nI σ.buf.length = nI σ.buf.length := rfl
  have hm_la : vI σ.go = vI σ.go := rfl
  have hm_nd : nI σ.nd = nI σ.nd := rfl
  have hm_st : σ.stp = σ.stp := rfl
  have hml0 := hs.buf.1
  have hnd8 := hs.nd
  have hfl : ∀ j, j < 512 → fl j = vI (lnq (pqS σ.ds) j) := hm_ln
  have hrw : rowOk (pqS σ.ds) fr := hm_rw
  have hbd := row_bd hrw
  refine Met.ofW (cc := prog_9_method_37_code) (maxL := 3) (ret := (some .int)) (by decide) rfl ?_
  intro p e s m args below meth c s₁ B hml hv
  obtain ⟨rfl, hsz, hP, hK, hD0, hN⟩ := hv
  have hx := B.exec
  have hb := B.bytes
  have hr := B.returns
  have hts := atoms_spec (ws := k_O_verify) B.pre
  have hw0 : ∀ w ∈ w0, w.before _ s = true := fun w h => hts w (List.mem_cons_of_mem _ h)
  have hown : s.vm.findClass R_O = some m.cls := findClass_of_methodNamed B.named
  have hlocks := B.notSynchronized
  subst hsz
  have hD := hD0.self (sz := s.heap.size)
  generalize hAe : va_A (mW h0 cB cI cL cZ _) s.heap.size = A at hD ⊢
  have hA : ∀ q : Nat, s.heap.size ≤ q → A q := fun q h => by rw [← hAe]; exact Or.inr h
  clear hAe hD0
  have hS : va_S A s.heap s.heap [] := va_S.rf
  replace hP : va_P (dC, dI) vwCl [(h0, .inr (7, [.int z_thrown, .int z_down, .int (vI σ.go), .ref hbu, .int (nI σ.buf.length), .int (nI σ.nd), .ref hgo, .ref hfi, .ref hma, .ref hln, .ref hau, .ref hsu, .ref hrow, .ref hmade, .int z_madeSize, .ref hbase, .int z_baseSize, .ref htx9, .int z_textSize, .int σ.stp, .ref hot, .int z_otherSize, .ref hpc, .int z_pieceSize, .int z_at, .int z_end, .int z_value])), (hbu, .inl (cB, 256, .inl (fbu))), (hgo, .inl (cZ, 8, .inl (fg))), (hfi, .inl (cI, 8, .inl (ff))), (hma, .inl (cI, 8, .inl (fm))), (hln, .inl (cL, 512, .inl (fl))), (hau, .inl (cI, 512, .inl (fa))), (hsu, .inl (cI, 512, .inl (fs))), (hrow, .inl (cB, 16384, .inl (fr))), (hmade, .inl (cB, 256, .inl (f))), (hbase, .inl (cB, 256, .inl (fb))), (htx9, .inl (cB, 256, .inl (ft))), (hot, .inl (cB, 256, .inl (fo))), (hpc, .inl (cB, 600, .inl (fp)))] s.heap := hP
  replace hD : va_D A [(h0, .inr (7, [.int z_thrown, .int z_down, .int (vI σ.go), .ref hbu, .int (nI σ.buf.length), .int (nI σ.nd), .ref hgo, .ref hfi, .ref hma, .ref hln, .ref hau, .ref hsu, .ref hrow, .ref hmade, .int z_madeSize, .ref hbase, .int z_baseSize, .ref htx9, .int z_textSize, .int σ.stp, .ref hot, .int z_otherSize, .ref hpc, .int z_pieceSize, .int z_at, .int z_end, .int z_value])), (hbu, .inl (cB, 256, .inl (fbu))), (hgo, .inl (cZ, 8, .inl (fg))), (hfi, .inl (cI, 8, .inl (ff))), (hma, .inl (cI, 8, .inl (fm))), (hln, .inl (cL, 512, .inl (fl))), (hau, .inl (cI, 512, .inl (fa))), (hsu, .inl (cI, 512, .inl (fs))), (hrow, .inl (cB, 16384, .inl (fr))), (hmade, .inl (cB, 256, .inl (f))), (hbase, .inl (cB, 256, .inl (fb))), (htx9, .inl (cB, 256, .inl (ft))), (hot, .inl (cB, 256, .inl (fo))), (hpc, .inl (cB, 600, .inl (fp)))] := hD
  have hl := lv_entry ([.ref h0, .int a1]) (n := 3) (Nat.le_of_ble_eq_true rfl)
  rw [lg_entry_eq]
  generalize (lg_sl ([.ref h0, .int a1]) ++ List.replicate (3 - (lg_sl ([.ref h0, .int a1])).length) Slot.unset).toArray = ls at hl ⊢
  have hl : lv_has ls 3 [(0, .ref h0), (1, .int a1)] := hl
  rcases hdw : σ.down with _ | _
  · obtain rfl : z_down = 0 := (by have h9 := hm_dw; rw [hdw] at h9; exact h9)
    refine lv_aload_n hx hb d_O_verify_0 rfl (lv_at hl 0 rfl) ?_
    refine lv_iconst (v := 1) hx hb d_O_verify_1 (by decide) ?_
    have hPc := hP.sub (ws' := [(h0, .inr (7, [.int z_thrown, .int 0, .int (vI σ.go), .ref hbu, .int (nI σ.buf.length), .int (nI σ.nd), .ref hgo, .ref hfi, .ref hma, .ref hln, .ref hau, .ref hsu, .ref hrow, .ref hmade, .int z_madeSize, .ref hbase, .int z_baseSize, .ref htx9, .int z_textSize, .int σ.stp, .ref hot, .int z_otherSize, .ref hpc, .int z_pieceSize, .int z_at, .int z_end, .int z_value]))]) [0] rfl
    have hKc := hK.sub (tys' := []) [] rfl
    have hDc := hD.sub (ws' := [(h0, .inr (7, [.int z_thrown, .int 0, .int (vI σ.go), .ref hbu, .int (nI σ.buf.length), .int (nI σ.nd), .ref hgo, .ref hfi, .ref hma, .ref hln, .ref hau, .ref hsu, .ref hrow, .ref hmade, .int z_madeSize, .ref hbase, .int z_baseSize, .ref htx9, .int z_textSize, .int σ.stp, .ref hot, .int z_otherSize, .ref hpc, .int z_pieceSize, .int z_at, .int z_end, .int z_value]))]) [0] (by decide) rfl
    have hFc := va_free (wc := [(h0, .inr (7, [.int z_thrown, .int 0, .int (vI σ.go), .ref hbu, .int (nI σ.buf.length), .int (nI σ.nd), .ref hgo, .ref hfi, .ref hma, .ref hln, .ref hau, .ref hsu, .ref hrow, .ref hmade, .int z_madeSize, .ref hbase, .int z_baseSize, .ref htx9, .int z_textSize, .int σ.stp, .ref hot, .int z_otherSize, .ref hpc, .int z_pieceSize, .int z_at, .int z_end, .int z_value]))]) hD hS hA [0] rfl
    refine va_calli (va_runV (As := [.int 1]) (rest := []) ⟨hx, hb, hml, hown, hw0⟩ (o_runs_U l dC dI s.heap.size h0 z_thrown (vI σ.go) (.ref hbu) (nI σ.buf.length) (nI σ.nd) (.ref hgo) (.ref hfi) (.ref hma) (.ref hln) (.ref hau) (.ref hsu) (.ref hrow) (.ref hmade) z_madeSize (.ref hbase) z_baseSize (.ref htx9) z_textSize σ.stp (.ref hot) z_otherSize (.ref hpc) z_pieceSize z_at z_end z_value 1) (cwV 1 hw0 (gd_V 276 277 278 161 279 rfl rfl rfl rfl rfl) rfl rfl rfl (by decide +kernel) ⟨by decide +kernel, by decide +kernel⟩) (prV_E hPc hKc hDc hN (va_recv hKc hPc (ci := 7) (q0 := 0) rfl rfl)) rfl rfl hl.1 rfl (lv_room (Nat.le_of_ble_eq_true rfl)) d_O_verify_2 ⟨by decide +kernel, by decide +kernel⟩) hS (fun q _ h => hFc q h) hFc (fun r_1 u t H1 locs ht hvm hw hB hz1 hk1 hS => ?_)
    obtain ⟨hP1, hK1, hD1⟩ := hB
    rw [ht] at hP1
    have hK1 := va_K.moved hvm.symm hK1
    try dsimp only at hw
    obtain ⟨hP, hD⟩ := va_join (wr := [(hbu, .inl (cB, 256, .inl (fbu))), (hgo, .inl (cZ, 8, .inl (fg))), (hfi, .inl (cI, 8, .inl (ff))), (hma, .inl (cI, 8, .inl (fm))), (hln, .inl (cL, 512, .inl (fl))), (hau, .inl (cI, 512, .inl (fa))), (hsu, .inl (cI, 512, .inl (fs))), (hrow, .inl (cB, 16384, .inl (fr))), (hmade, .inl (cB, 256, .inl (f))), (hbase, .inl (cB, 256, .inl (fb))), (htx9, .inl (cB, 256, .inl (ft))), (hot, .inl (cB, 256, .inl (fo))), (hpc, .inl (cB, 600, .inl (fp)))]) (w1 := [(h0, .inr (7, [.int 0, .int 0, .int (vI σ.go), .ref hbu, .int (nI σ.buf.length), .int (nI σ.nd), .ref hgo, .ref hfi, .ref hma, .ref hln, .ref hau, .ref hsu, .ref hrow, .ref hmade, .int z_madeSize, .ref hbase, .int z_baseSize, .ref htx9, .int z_textSize, .int σ.stp, .ref hot, .int z_otherSize, .ref hpc, .int z_pieceSize, .int z_at, .int z_end, .int z_value]))]) hP hD [0] [1, 2, 3, 4, 5, 6, 7, 8, 9, 10, 11, 12, 13] rfl rfl (by decide) (by decide) hk1 hFc hP1 hD1
    generalize H1 = H at hP hS ⊢
    replace hP : va_P (dC, dI) vwCl [(hbu, .inl (cB, 256, .inl (fbu))), (hgo, .inl (cZ, 8, .inl (fg))), (hfi, .inl (cI, 8, .inl (ff))), (hma, .inl (cI, 8, .inl (fm))), (hln, .inl (cL, 512, .inl (fl))), (hau, .inl (cI, 512, .inl (fa))), (hsu, .inl (cI, 512, .inl (fs))), (hrow, .inl (cB, 16384, .inl (fr))), (hmade, .inl (cB, 256, .inl (f))), (hbase, .inl (cB, 256, .inl (fb))), (htx9, .inl (cB, 256, .inl (ft))), (hot, .inl (cB, 256, .inl (fo))), (hpc, .inl (cB, 600, .inl (fp))), (h0, .inr (7, [.int 0, .int 0, .int (vI σ.go), .ref hbu, .int (nI σ.buf.length), .int (nI σ.nd), .ref hgo, .ref hfi, .ref hma, .ref hln, .ref hau, .ref hsu, .ref hrow, .ref hmade, .int z_madeSize, .ref hbase, .int z_baseSize, .ref htx9, .int z_textSize, .int σ.stp, .ref hot, .int z_otherSize, .ref hpc, .int z_pieceSize, .int z_at, .int z_end, .int z_value]))] H := hP
    replace hD : va_D A [(hbu, .inl (cB, 256, .inl (fbu))), (hgo, .inl (cZ, 8, .inl (fg))), (hfi, .inl (cI, 8, .inl (ff))), (hma, .inl (cI, 8, .inl (fm))), (hln, .inl (cL, 512, .inl (fl))), (hau, .inl (cI, 512, .inl (fa))), (hsu, .inl (cI, 512, .inl (fs))), (hrow, .inl (cB, 16384, .inl (fr))), (hmade, .inl (cB, 256, .inl (f))), (hbase, .inl (cB, 256, .inl (fb))), (htx9, .inl (cB, 256, .inl (ft))), (hot, .inl (cB, 256, .inl (fo))), (hpc, .inl (cB, 600, .inl (fp))), (h0, .inr (7, [.int 0, .int 0, .int (vI σ.go), .ref hbu, .int (nI σ.buf.length), .int (nI σ.nd), .ref hgo, .ref hfi, .ref hma, .ref hln, .ref hau, .ref hsu, .ref hrow, .ref hmade, .int z_madeSize, .ref hbase, .int z_baseSize, .ref htx9, .int z_textSize, .int σ.stp, .ref hot, .int z_otherSize, .ref hpc, .int z_pieceSize, .int z_at, .int z_end, .int z_value]))] := hD
    replace hK : va_K (dC, dI) vwCl [(cB, .byte), (cI, .int), (cL, .short), (cZ, .boolean)] s := hK
    obtain rfl : r_1 = 1 := hw
    refine lv_if_ne (tgt := 10) hx hb d_O_verify_5 (by decide) (fun _ => ?_) (fun h9 => absurd h9 (by decide +kernel))
    rcases hdg : dGet σ.ds a1 with _ | ⟨i, d⟩
    · have hF := no_doc hs.nd hm_gn hdg
      refine lv_iconst (v := 0) hx hb d_O_verify_10 (by decide) ?_
      refine lv_istore_n (lv' := [(2, .int 0), (0, .ref h0), (1, .int a1)]) hx hb d_O_verify_11 rfl hl (by decide) rfl (fun ls hl => ?_)
      refine lv_iload_n hx hb d_O_verify_12 rfl (lv_at hl 0 rfl) ?_
      refine lv_bipush (v := 64) hx hb d_O_verify_13 (by decide +kernel) ?_
      refine lv_icmp_ge (tgt := 70) hx hb d_O_verify_15 (by decide) (fun h9 => absurd h9 (by decide +kernel)) (fun _ => ?_)
      refine lv_aload_n hx hb d_O_verify_18 rfl (lv_at hl 1 rfl) ?_
      refine lv_iload_n hx hb d_O_verify_19 rfl (lv_at hl 2 rfl) ?_
      refine lv_iload_n hx hb d_O_verify_20 rfl (lv_at hl 0 rfl) ?_
      have hPc := hP.sub (ws' := [(h0, .inr (7, [.int 0, .int 0, .int (vI σ.go), .ref hbu, .int (nI σ.buf.length), .int (nI σ.nd), .ref hgo, .ref hfi, .ref hma, .ref hln, .ref hau, .ref hsu, .ref hrow, .ref hmade, .int z_madeSize, .ref hbase, .int z_baseSize, .ref htx9, .int z_textSize, .int σ.stp, .ref hot, .int z_otherSize, .ref hpc, .int z_pieceSize, .int z_at, .int z_end, .int z_value])), (hgo, .inl (cZ, 8, .inl ((fg)))), (hfi, .inl (cI, 8, .inl ((ff)))), (hma, .inl (cI, 8, .inl ((fm))))]) [13, 1, 2, 3] rfl
      have hKc := hK.sub (tys' := [(cZ, .boolean), (cI, .int)]) [3, 1] rfl
      refine ps_i (va_runV (As := [.int a1, .int 0]) (rest := []) ⟨hx, hb, hml, hown, hw0⟩ (o_asked_N l dC dI h0 0 0 (vI σ.go) (.ref hbu) (nI σ.buf.length) (.ref hln) (.ref hau) (.ref hsu) (.ref hrow) (.ref hmade) z_madeSize (.ref hbase) z_baseSize (.ref htx9) z_textSize σ.stp (.ref hot) z_otherSize (.ref hpc) z_pieceSize z_at z_end z_value σ.nd hgo cZ (fg) hfi cI (ff) hma (fm) a1 0 (by first | assumption | decide | omega) (by first | assumption | decide | omega)) (cwV 2 hw0 (gd_V 291 292 293 161 294 rfl rfl rfl rfl rfl) rfl rfl rfl (by decide +kernel) ⟨by decide +kernel, by decide +kernel⟩) (prV_R hPc hKc hN (va_recv hKc hPc (ci := 7) (q0 := 0) rfl rfl)) rfl rfl hl.1 rfl (lv_room (Nat.le_of_ble_eq_true rfl)) d_O_verify_21 ⟨by decide +kernel, by decide +kernel⟩) (fun r_3 hr_3 => ?_)
      obtain rfl : r_3 = 0 := hr_3
      refine lv_if_eq (tgt := 64) hx hb d_O_verify_24 (by decide) (fun _ => ?_) (fun h9 => absurd h9 (by decide +kernel))
      refine lv_iinc (v := 1) (lv' := [(2, .int 1), (0, .ref h0), (1, .int a1)]) hx hb d_O_verify_64 hl (k := 0) rfl (by decide +kernel) (by decide) rfl (fun ls hl => ?_)
      refine lv_goto (tgt := 12) hx hb d_O_verify_67 (by decide) ?_
      refine lv_iload_n hx hb d_O_verify_12 rfl (lv_at hl 0 rfl) ?_
      refine lv_bipush (v := 64) hx hb d_O_verify_13 (by decide +kernel) ?_
      refine lv_icmp_ge (tgt := 70) hx hb d_O_verify_15 (by decide) (fun h9 => absurd h9 (by decide +kernel)) (fun _ => ?_)
      refine lv_aload_n hx hb d_O_verify_18 rfl (lv_at hl 1 rfl) ?_
      refine lv_iload_n hx hb d_O_verify_19 rfl (lv_at hl 2 rfl) ?_
      refine lv_iload_n hx hb d_O_verify_20 rfl (lv_at hl 0 rfl) ?_
      have hPc := hP.sub (ws' := [(h0, .inr (7, [.int 0, .int 0, .int (vI σ.go), .ref hbu, .int (nI σ.buf.length), .int (nI σ.nd), .ref hgo, .ref hfi, .ref hma, .ref hln, .ref hau, .ref hsu, .ref hrow, .ref hmade, .int z_madeSize, .ref hbase, .int z_baseSize, .ref htx9, .int z_textSize, .int σ.stp, .ref hot, .int z_otherSize, .ref hpc, .int z_pieceSize, .int z_at, .int z_end, .int z_value])), (hgo, .inl (cZ, 8, .inl ((fg)))), (hfi, .inl (cI, 8, .inl ((ff)))), (hma, .inl (cI, 8, .inl ((fm))))]) [13, 1, 2, 3] rfl
      have hKc := hK.sub (tys' := [(cZ, .boolean), (cI, .int)]) [3, 1] rfl
      refine ps_i (va_runV (As := [.int a1, .int 1]) (rest := []) ⟨hx, hb, hml, hown, hw0⟩ (o_asked_N l dC dI h0 0 0 (vI σ.go) (.ref hbu) (nI σ.buf.length) (.ref hln) (.ref hau) (.ref hsu) (.ref hrow) (.ref hmade) z_madeSize (.ref hbase) z_baseSize (.ref htx9) z_textSize σ.stp (.ref hot) z_otherSize (.ref hpc) z_pieceSize z_at z_end z_value σ.nd hgo cZ (fg) hfi cI (ff) hma (fm) a1 1 (by first | assumption | decide | omega) (by first | assumption | decide | omega)) (cwV 2 hw0 (gd_V 291 292 293 161 294 rfl rfl rfl rfl rfl) rfl rfl rfl (by decide +kernel) ⟨by decide +kernel, by decide +kernel⟩) (prV_R hPc hKc hN (va_recv hKc hPc (ci := 7) (q0 := 0) rfl rfl)) rfl rfl hl.1 rfl (lv_room (Nat.le_of_ble_eq_true rfl)) d_O_verify_21 ⟨by decide +kernel, by decide +kernel⟩) (fun r_4 hr_4 => ?_)
      obtain rfl : r_4 = 0 := hr_4
      refine lv_if_eq (tgt := 64) hx hb d_O_verify_24 (by decide) (fun _ => ?_) (fun h9 => absurd h9 (by decide +kernel))
      refine lv_iinc (v := 2) (lv' := [(2, .int 2), (0, .ref h0), (1, .int a1)]) hx hb d_O_verify_64 hl (k := 0) rfl (by decide +kernel) (by decide) rfl (fun ls hl => ?_)
      refine lv_goto (tgt := 12) hx hb d_O_verify_67 (by decide) ?_
      refine lv_iload_n hx hb d_O_verify_12 rfl (lv_at hl 0 rfl) ?_
      refine lv_bipush (v := 64) hx hb d_O_verify_13 (by decide +kernel) ?_
      refine lv_icmp_ge (tgt := 70) hx hb d_O_verify_15 (by decide) (fun h9 => absurd h9 (by decide +kernel)) (fun _ => ?_)
      refine lv_aload_n hx hb d_O_verify_18 rfl (lv_at hl 1 rfl) ?_
      refine lv_iload_n hx hb d_O_verify_19 rfl (lv_at hl 2 rfl) ?_
      refine lv_iload_n hx hb d_O_verify_20 rfl (lv_at hl 0 rfl) ?_
      have hPc := hP.sub (ws' := [(h0, .inr (7, [.int 0, .int 0, .int (vI σ.go), .ref hbu, .int (nI σ.buf.length), .int (nI σ.nd), .ref hgo, .ref hfi, .ref hma, .ref hln, .ref hau, .ref hsu, .ref hrow, .ref hmade, .int z_madeSize, .ref hbase, .int z_baseSize, .ref htx9, .int z_textSize, .int σ.stp, .ref hot, .int z_otherSize, .ref hpc, .int z_pieceSize, .int z_at, .int z_end, .int z_value])), (hgo, .inl (cZ, 8, .inl ((fg)))), (hfi, .inl (cI, 8, .inl ((ff)))), (hma, .inl (cI, 8, .inl ((fm))))]) [13, 1, 2, 3] rfl
      have hKc := hK.sub (tys' := [(cZ, .boolean), (cI, .int)]) [3, 1] rfl
      refine ps_i (va_runV (As := [.int a1, .int 2]) (rest := []) ⟨hx, hb, hml, hown, hw0⟩ (o_asked_N l dC dI h0 0 0 (vI σ.go) (.ref hbu) (nI σ.buf.length) (.ref hln) (.ref hau) (.ref hsu) (.ref hrow) (.ref hmade) z_madeSize (.ref hbase) z_baseSize (.ref htx9) z_textSize σ.stp (.ref hot) z_otherSize (.ref hpc) z_pieceSize z_at z_end z_value σ.nd hgo cZ (fg) hfi cI (ff) hma (fm) a1 2 (by first | assumption | decide | omega) (by first | assumption | decide | omega)) (cwV 2 hw0 (gd_V 291 292 293 161 294 rfl rfl rfl rfl rfl) rfl rfl rfl (by decide +kernel) ⟨by decide +kernel, by decide +kernel⟩) (prV_R hPc hKc hN (va_recv hKc hPc (ci := 7) (q0 := 0) rfl rfl)) rfl rfl hl.1 rfl (lv_room (Nat.le_of_ble_eq_true rfl)) d_O_verify_21 ⟨by decide +kernel, by decide +kernel⟩) (fun r_5 hr_5 => ?_)
      obtain rfl : r_5 = 0 := hr_5
      refine lv_if_eq (tgt := 64) hx hb d_O_verify_24 (by decide) (fun _ => ?_) (fun h9 => absurd h9 (by decide +kernel))
      refine lv_iinc (v := 3) (lv' := [(2, .int 3), (0, .ref h0), (1, .int a1)]) hx hb d_O_verify_64 hl (k := 0) rfl (by decide +kernel) (by decide) rfl (fun ls hl => ?_)
      refine lv_goto (tgt := 12) hx hb d_O_verify_67 (by decide) ?_
      refine lv_iload_n hx hb d_O_verify_12 rfl (lv_at hl 0 rfl) ?_
      refine lv_bipush (v := 64) hx hb d_O_verify_13 (by decide +kernel) ?_
      refine lv_icmp_ge (tgt := 70) hx hb d_O_verify_15 (by decide) (fun h9 => absurd h9 (by decide +kernel)) (fun _ => ?_)
      refine lv_aload_n hx hb d_O_verify_18 rfl (lv_at hl 1 rfl) ?_
      refine lv_iload_n hx hb d_O_verify_19 rfl (lv_at hl 2 rfl) ?_
      refine lv_iload_n hx hb d_O_verify_20 rfl (lv_at hl 0 rfl) ?_
      have hPc := hP.sub (ws' := [(h0, .inr (7, [.int 0, .int 0, .int (vI σ.go), .ref hbu, .int (nI σ.buf.length), .int (nI σ.nd), .ref hgo, .ref hfi, .ref hma, .ref hln, .ref hau, .ref hsu, .ref hrow, .ref hmade, .int z_madeSize, .ref hbase, .int z_baseSize, .ref htx9, .int z_textSize, .int σ.stp, .ref hot, .int z_otherSize, .ref hpc, .int z_pieceSize, .int z_at, .int z_end, .int z_value])), (hgo, .inl (cZ, 8, .inl ((fg)))), (hfi, .inl (cI, 8, .inl ((ff)))), (hma, .inl (cI, 8, .inl ((fm))))]) [13, 1, 2, 3] rfl
      have hKc := hK.sub (tys' := [(cZ, .boolean), (cI, .int)]) [3, 1] rfl
      refine ps_i (va_runV (As := [.int a1, .int 3]) (rest := []) ⟨hx, hb, hml, hown, hw0⟩ (o_asked_N l dC dI h0 0 0 (vI σ.go) (.ref hbu) (nI σ.buf.length) (.ref hln) (.ref hau) (.ref hsu) (.ref hrow) (.ref hmade) z_madeSize (.ref hbase) z_baseSize (.ref htx9) z_textSize σ.stp (.ref hot) z_otherSize (.ref hpc) z_pieceSize z_at z_end z_value σ.nd hgo cZ (fg) hfi cI (ff) hma (fm) a1 3 (by first | assumption | decide | omega) (by first | assumption | decide | omega)) (cwV 2 hw0 (gd_V 291 292 293 161 294 rfl rfl rfl rfl rfl) rfl rfl rfl (by decide +kernel) ⟨by decide +kernel, by decide +kernel⟩) (prV_R hPc hKc hN (va_recv hKc hPc (ci := 7) (q0 := 0) rfl rfl)) rfl rfl hl.1 rfl (lv_room (Nat.le_of_ble_eq_true rfl)) d_O_verify_21 ⟨by decide +kernel, by decide +kernel⟩) (fun r_6 hr_6 => ?_)
      obtain rfl : r_6 = 0 := hr_6
      refine lv_if_eq (tgt := 64) hx hb d_O_verify_24 (by decide) (fun _ => ?_) (fun h9 => absurd h9 (by decide +kernel))
      refine lv_iinc (v := 4) (lv' := [(2, .int 4), (0, .ref h0), (1, .int a1)]) hx hb d_O_verify_64 hl (k := 0) rfl (by decide +kernel) (by decide) rfl (fun ls hl => ?_)
      refine lv_goto (tgt := 12) hx hb d_O_verify_67 (by decide) ?_
      refine lv_iload_n hx hb d_O_verify_12 rfl (lv_at hl 0 rfl) ?_
      refine lv_bipush (v := 64) hx hb d_O_verify_13 (by decide +kernel) ?_
      refine lv_icmp_ge (tgt := 70) hx hb d_O_verify_15 (by decide) (fun h9 => absurd h9 (by decide +kernel)) (fun _ => ?_)
      refine lv_aload_n hx hb d_O_verify_18 rfl (lv_at hl 1 rfl) ?_
      refine lv_iload_n hx hb d_O_verify_19 rfl (lv_at hl 2 rfl) ?_
      refine lv_iload_n hx hb d_O_verify_20 rfl (lv_at hl 0 rfl) ?_
      have hPc := hP.sub (ws' := [(h0, .inr (7, [.int 0, .int 0, .int (vI σ.go), .ref hbu, .int (nI σ.buf.length), .int (nI σ.nd), .ref hgo, .ref hfi, .ref hma, .ref hln, .ref hau, .ref hsu, .ref hrow, .ref hmade, .int z_madeSize, .ref hbase, .int z_baseSize, .ref htx9, .int z_textSize, .int σ.stp, .ref hot, .int z_otherSize, .ref hpc, .int z_pieceSize, .int z_at, .int z_end, .int z_value])), (hgo, .inl (cZ, 8, .inl ((fg)))), (hfi, .inl (cI, 8, .inl ((ff)))), (hma, .inl (cI, 8, .inl ((fm))))]) [13, 1, 2, 3] rfl
      have hKc := hK.sub (tys' := [(cZ, .boolean), (cI, .int)]) [3, 1] rfl
      refine ps_i (va_runV (As := [.int a1, .int 4]) (rest := []) ⟨hx, hb, hml, hown, hw0⟩ (o_asked_N l dC dI h0 0 0 (vI σ.go) (.ref hbu) (nI σ.buf.length) (.ref hln) (.ref hau) (.ref hsu) (.ref hrow) (.ref hmade) z_madeSize (.ref hbase) z_baseSize (.ref htx9) z_textSize σ.stp (.ref hot) z_otherSize (.ref hpc) z_pieceSize z_at z_end z_value σ.nd hgo cZ (fg) hfi cI (ff) hma (fm) a1 4 (by first | assumption | decide | omega) (by first | assumption | decide | omega)) (cwV 2 hw0 (gd_V 291 292 293 161 294 rfl rfl rfl rfl rfl) rfl rfl rfl (by decide +kernel) ⟨by decide +kernel, by decide +kernel⟩) (prV_R hPc hKc hN (va_recv hKc hPc (ci := 7) (q0 := 0) rfl rfl)) rfl rfl hl.1 rfl (lv_room (Nat.le_of_ble_eq_true rfl)) d_O_verify_21 ⟨by decide +kernel, by decide +kernel⟩) (fun r_7 hr_7 => ?_)
      obtain rfl : r_7 = 0 := hr_7
      refine lv_if_eq (tgt := 64) hx hb d_O_verify_24 (by decide) (fun _ => ?_) (fun h9 => absurd h9 (by decide +kernel))
      refine lv_iinc (v := 5) (lv' := [(2, .int 5), (0, .ref h0), (1, .int a1)]) hx hb d_O_verify_64 hl (k := 0) rfl (by decide +kernel) (by decide) rfl (fun ls hl => ?_)
      refine lv_goto (tgt := 12) hx hb d_O_verify_67 (by decide) ?_
      refine lv_iload_n hx hb d_O_verify_12 rfl (lv_at hl 0 rfl) ?_
      refine lv_bipush (v := 64) hx hb d_O_verify_13 (by decide +kernel) ?_
      refine lv_icmp_ge (tgt := 70) hx hb d_O_verify_15 (by decide) (fun h9 => absurd h9 (by decide +kernel)) (fun _ => ?_)
      refine lv_aload_n hx hb d_O_verify_18 rfl (lv_at hl 1 rfl) ?_
      refine lv_iload_n hx hb d_O_verify_19 rfl (lv_at hl 2 rfl) ?_
      refine lv_iload_n hx hb d_O_verify_20 rfl (lv_at hl 0 rfl) ?_
      have hPc := hP.sub (ws' := [(h0, .inr (7, [.int 0, .int 0, .int (vI σ.go), .ref hbu, .int (nI σ.buf.length), .int (nI σ.nd), .ref hgo, .ref hfi, .ref hma, .ref hln, .ref hau, .ref hsu, .ref hrow, .ref hmade, .int z_madeSize, .ref hbase, .int z_baseSize, .ref htx9, .int z_textSize, .int σ.stp, .ref hot, .int z_otherSize, .ref hpc, .int z_pieceSize, .int z_at, .int z_end, .int z_value])), (hgo, .inl (cZ, 8, .inl ((fg)))), (hfi, .inl (cI, 8, .inl ((ff)))), (hma, .inl (cI, 8, .inl ((fm))))]) [13, 1, 2, 3] rfl
      have hKc := hK.sub (tys' := [(cZ, .boolean), (cI, .int)]) [3, 1] rfl
      refine ps_i (va_runV (As := [.int a1, .int 5]) (rest := []) ⟨hx, hb, hml, hown, hw0⟩ (o_asked_N l dC dI h0 0 0 (vI σ.go) (.ref hbu) (nI σ.buf.length) (.ref hln) (.ref hau) (.ref hsu) (.ref hrow) (.ref hmade) z_madeSize (.ref hbase) z_baseSize (.ref htx9) z_textSize σ.stp (.ref hot) z_otherSize (.ref hpc) z_pieceSize z_at z_end z_value σ.nd hgo cZ (fg) hfi cI (ff) hma (fm) a1 5 (by first | assumption | decide | omega) (by first | assumption | decide | omega)) (cwV 2 hw0 (gd_V 291 292 293 161 294 rfl rfl rfl rfl rfl) rfl rfl rfl (by decide +kernel) ⟨by decide +kernel, by decide +kernel⟩) (prV_R hPc hKc hN (va_recv hKc hPc (ci := 7) (q0 := 0) rfl rfl)) rfl rfl hl.1 rfl (lv_room (Nat.le_of_ble_eq_true rfl)) d_O_verify_21 ⟨by decide +kernel, by decide +kernel⟩) (fun r_8 hr_8 => ?_)
      obtain rfl : r_8 = 0 := hr_8
      refine lv_if_eq (tgt := 64) hx hb d_O_verify_24 (by decide) (fun _ => ?_) (fun h9 => absurd h9 (by decide +kernel))
      refine lv_iinc (v := 6) (lv' := [(2, .int 6), (0, .ref h0), (1, .int a1)]) hx hb d_O_verify_64 hl (k := 0) rfl (by decide +kernel) (by decide) rfl (fun ls hl => ?_)
      refine lv_goto (tgt := 12) hx hb d_O_verify_67 (by decide) ?_
      refine lv_iload_n hx hb d_O_verify_12 rfl (lv_at hl 0 rfl) ?_
      refine lv_bipush (v := 64) hx hb d_O_verify_13 (by decide +kernel) ?_
      refine lv_icmp_ge (tgt := 70) hx hb d_O_verify_15 (by decide) (fun h9 => absurd h9 (by decide +kernel)) (fun _ => ?_)
      refine lv_aload_n hx hb d_O_verify_18 rfl (lv_at hl 1 rfl) ?_
      refine lv_iload_n hx hb d_O_verify_19 rfl (lv_at hl 2 rfl) ?_
      refine lv_iload_n hx hb d_O_verify_20 rfl (lv_at hl 0 rfl) ?_
      have hPc := hP.sub (ws' := [(h0, .inr (7, [.int 0, .int 0, .int (vI σ.go), .ref hbu, .int (nI σ.buf.length), .int (nI σ.nd), .ref hgo, .ref hfi, .ref hma, .ref hln, .ref hau, .ref hsu, .ref hrow, .ref hmade, .int z_madeSize, .ref hbase, .int z_baseSize, .ref htx9, .int z_textSize, .int σ.stp, .ref hot, .int z_otherSize, .ref hpc, .int z_pieceSize, .int z_at, .int z_end, .int z_value])), (hgo, .inl (cZ, 8, .inl ((fg)))), (hfi, .inl (cI, 8, .inl ((ff)))), (hma, .inl (cI, 8, .inl ((fm))))]) [13, 1, 2, 3] rfl
      have hKc := hK.sub (tys' := [(cZ, .boolean), (cI, .int)]) [3, 1] rfl
      refine ps_i (va_runV (As := [.int a1, .int 6]) (rest := []) ⟨hx, hb, hml, hown, hw0⟩ (o_asked_N l dC dI h0 0 0 (vI σ.go) (.ref hbu) (nI σ.buf.length) (.ref hln) (.ref hau) (.ref hsu) (.ref hrow) (.ref hmade) z_madeSize (.ref hbase) z_baseSize (.ref htx9) z_textSize σ.stp (.ref hot) z_otherSize (.ref hpc) z_pieceSize z_at z_end z_value σ.nd hgo cZ (fg) hfi cI (ff) hma (fm) a1 6 (by first | assumption | decide | omega) (by first | assumption | decide | omega)) (cwV 2 hw0 (gd_V 291 292 293 161 294 rfl rfl rfl rfl rfl) rfl rfl rfl (by decide +kernel) ⟨by decide +kernel, by decide +kernel⟩) (prV_R hPc hKc hN (va_recv hKc hPc (ci := 7) (q0 := 0) rfl rfl)) rfl rfl hl.1 rfl (lv_room (Nat.le_of_ble_eq_true rfl)) d_O_verify_21 ⟨by decide +kernel, by decide +kernel⟩) (fun r_9 hr_9 => ?_)
      obtain rfl : r_9 = 0 := hr_9
      refine lv_if_eq (tgt := 64) hx hb d_O_verify_24 (by decide) (fun _ => ?_) (fun h9 => absurd h9 (by decide +kernel))
      refine lv_iinc (v := 7) (lv' := [(2, .int 7), (0, .ref h0), (1, .int a1)]) hx hb d_O_verify_64 hl (k := 0) rfl (by decide +kernel) (by decide) rfl (fun ls hl => ?_)
      refine lv_goto (tgt := 12) hx hb d_O_verify_67 (by decide) ?_
      refine lv_iload_n hx hb d_O_verify_12 rfl (lv_at hl 0 rfl) ?_
      refine lv_bipush (v := 64) hx hb d_O_verify_13 (by decide +kernel) ?_
      refine lv_icmp_ge (tgt := 70) hx hb d_O_verify_15 (by decide) (fun h9 => absurd h9 (by decide +kernel)) (fun _ => ?_)
      refine lv_aload_n hx hb d_O_verify_18 rfl (lv_at hl 1 rfl) ?_
      refine lv_iload_n hx hb d_O_verify_19 rfl (lv_at hl 2 rfl) ?_
      refine lv_iload_n hx hb d_O_verify_20 rfl (lv_at hl 0 rfl) ?_
      have hPc := hP.sub (ws' := [(h0, .inr (7, [.int 0, .int 0, .int (vI σ.go), .ref hbu, .int (nI σ.buf.length), .int (nI σ.nd), .ref hgo, .ref hfi, .ref hma, .ref hln, .ref hau, .ref hsu, .ref hrow, .ref hmade, .int z_madeSize, .ref hbase, .int z_baseSize, .ref htx9, .int z_textSize, .int σ.stp, .ref hot, .int z_otherSize, .ref hpc, .int z_pieceSize, .int z_at, .int z_end, .int z_value])), (hgo, .inl (cZ, 8, .inl ((fg)))), (hfi, .inl (cI, 8, .inl ((ff)))), (hma, .inl (cI, 8, .inl ((fm))))]) [13, 1, 2, 3] rfl
      have hKc := hK.sub (tys' := [(cZ, .boolean), (cI, .int)]) [3, 1] rfl
      refine ps_i (va_runV (As := [.int a1, .int 7]) (rest := []) ⟨hx, hb, hml, hown, hw0⟩ (o_asked_N l dC dI h0 0 0 (vI σ.go) (.ref hbu) (nI σ.buf.length) (.ref hln) (.ref hau) (.ref hsu) (.ref hrow) (.ref hmade) z_madeSize (.ref hbase) z_baseSize (.ref htx9) z_textSize σ.stp (.ref hot) z_otherSize (.ref hpc) z_pieceSize z_at z_end z_value σ.nd hgo cZ (fg) hfi cI (ff) hma (fm) a1 7 (by first | assumption | decide | omega) (by first | assumption | decide | omega)) (cwV 2 hw0 (gd_V 291 292 293 161 294 rfl rfl rfl rfl rfl) rfl rfl rfl (by decide +kernel) ⟨by decide +kernel, by decide +kernel⟩) (prV_R hPc hKc hN (va_recv hKc hPc (ci := 7) (q0 := 0) rfl rfl)) rfl rfl hl.1 rfl (lv_room (Nat.le_of_ble_eq_true rfl)) d_O_verify_21 ⟨by decide +kernel, by decide +kernel⟩) (fun r_10 hr_10 => ?_)
      obtain rfl : r_10 = 0 := hr_10
      refine lv_if_eq (tgt := 64) hx hb d_O_verify_24 (by decide) (fun _ => ?_) (fun h9 => absurd h9 (by decide +kernel))
      refine lv_iinc (v := 8) (lv' := [(2, .int 8), (0, .ref h0), (1, .int a1)]) hx hb d_O_verify_64 hl (k := 0) rfl (by decide +kernel) (by decide) rfl (fun ls hl => ?_)
      refine lv_goto (tgt := 12) hx hb d_O_verify_67 (by decide) ?_
      refine lv_iload_n hx hb d_O_verify_12 rfl (lv_at hl 0 rfl) ?_
      refine lv_bipush (v := 64) hx hb d_O_verify_13 (by decide +kernel) ?_
      refine lv_icmp_ge (tgt := 70) hx hb d_O_verify_15 (by decide) (fun h9 => absurd h9 (by decide +kernel)) (fun _ => ?_)
      refine lv_aload_n hx hb d_O_verify_18 rfl (lv_at hl 1 rfl) ?_
      refine lv_iload_n hx hb d_O_verify_19 rfl (lv_at hl 2 rfl) ?_
      refine lv_iload_n hx hb d_O_verify_20 rfl (lv_at hl 0 rfl) ?_
      have hPc := hP.sub (ws' := [(h0, .inr (7, [.int 0, .int 0, .int (vI σ.go), .ref hbu, .int (nI σ.buf.length), .int (nI σ.nd), .ref hgo, .ref hfi, .ref hma, .ref hln, .ref hau, .ref hsu, .ref hrow, .ref hmade, .int z_madeSize, .ref hbase, .int z_baseSize, .ref htx9, .int z_textSize, .int σ.stp, .ref hot, .int z_otherSize, .ref hpc, .int z_pieceSize, .int z_at, .int z_end, .int z_value])), (hgo, .inl (cZ, 8, .inl ((fg)))), (hfi, .inl (cI, 8, .inl ((ff)))), (hma, .inl (cI, 8, .inl ((fm))))]) [13, 1, 2, 3] rfl
      have hKc := hK.sub (tys' := [(cZ, .boolean), (cI, .int)]) [3, 1] rfl
      refine ps_i (va_runV (As := [.int a1, .int 8]) (rest := []) ⟨hx, hb, hml, hown, hw0⟩ (o_asked_N l dC dI h0 0 0 (vI σ.go) (.ref hbu) (nI σ.buf.length) (.ref hln) (.ref hau) (.ref hsu) (.ref hrow) (.ref hmade) z_madeSize (.ref hbase) z_baseSize (.ref htx9) z_textSize σ.stp (.ref hot) z_otherSize (.ref hpc) z_pieceSize z_at z_end z_value σ.nd hgo cZ (fg) hfi cI (ff) hma (fm) a1 8 (by first | assumption | decide | omega) (by first | assumption | decide | omega)) (cwV 2 hw0 (gd_V 291 292 293 161 294 rfl rfl rfl rfl rfl) rfl rfl rfl (by decide +kernel) ⟨by decide +kernel, by decide +kernel⟩) (prV_R hPc hKc hN (va_recv hKc hPc (ci := 7) (q0 := 0) rfl rfl)) rfl rfl hl.1 rfl (lv_room (Nat.le_of_ble_eq_true rfl)) d_O_verify_21 ⟨by decide +kernel, by decide +kernel⟩) (fun r_11 hr_11 => ?_)
      obtain rfl : r_11 = 0 := hr_11
      refine lv_if_eq (tgt := 64) hx hb d_O_verify_24 (by decide) (fun _ => ?_) (fun h9 => absurd h9 (by decide +kernel))
      refine lv_iinc (v := 9) (lv' := [(2, .int 9), (0, .ref h0), (1, .int a1)]) hx hb d_O_verify_64 hl (k := 0) rfl (by decide +kernel) (by decide) rfl (fun ls hl => ?_)
      refine lv_goto (tgt := 12) hx hb d_O_verify_67 (by decide) ?_
      refine lv_iload_n hx hb d_O_verify_12 rfl (lv_at hl 0 rfl) ?_
      refine lv_bipush (v := 64) hx hb d_O_verify_13 (by decide +kernel) ?_
      refine lv_icmp_ge (tgt := 70) hx hb d_O_verify_15 (by decide) (fun h9 => absurd h9 (by decide +kernel)) (fun _ => ?_)
      refine lv_aload_n hx hb d_O_verify_18 rfl (lv_at hl 1 rfl) ?_
      refine lv_iload_n hx hb d_O_verify_19 rfl (lv_at hl 2 rfl) ?_
      refine lv_iload_n hx hb d_O_verify_20 rfl (lv_at hl 0 rfl) ?_
      have hPc := hP.sub (ws' := [(h0, .inr (7, [.int 0, .int 0, .int (vI σ.go), .ref hbu, .int (nI σ.buf.length), .int (nI σ.nd), .ref hgo, .ref hfi, .ref hma, .ref hln, .ref hau, .ref hsu, .ref hrow, .ref hmade, .int z_madeSize, .ref hbase, .int z_baseSize, .ref htx9, .int z_textSize, .int σ.stp, .ref hot, .int z_otherSize, .ref hpc, .int z_pieceSize, .int z_at, .int z_end, .int z_value])), (hgo, .inl (cZ, 8, .inl ((fg)))), (hfi, .inl (cI, 8, .inl ((ff)))), (hma, .inl (cI, 8, .inl ((fm))))]) [13, 1, 2, 3] rfl
      have hKc := hK.sub (tys' := [(cZ, .boolean), (cI, .int)]) [3, 1] rfl
      refine ps_i (va_runV (As := [.int a1, .int 9]) (rest := []) ⟨hx, hb, hml, hown, hw0⟩ (o_asked_N l dC dI h0 0 0 (vI σ.go) (.ref hbu) (nI σ.buf.length) (.ref hln) (.ref hau) (.ref hsu) (.ref hrow) (.ref hmade) z_madeSize (.ref hbase) z_baseSize (.ref htx9) z_textSize σ.stp (.ref hot) z_otherSize (.ref hpc) z_pieceSize z_at z_end z_value σ.nd hgo cZ (fg) hfi cI (ff) hma (fm) a1 9 (by first | assumption | decide | omega) (by first | assumption | decide | omega)) (cwV 2 hw0 (gd_V 291 292 293 161 294 rfl rfl rfl rfl rfl) rfl rfl rfl (by decide +kernel) ⟨by decide +kernel, by decide +kernel⟩) (prV_R hPc hKc hN (va_recv hKc hPc (ci := 7) (q0 := 0) rfl rfl)) rfl rfl hl.1 rfl (lv_room (Nat.le_of_ble_eq_true rfl)) d_O_verify_21 ⟨by decide +kernel, by decide +kernel⟩) (fun r_12 hr_12 => ?_)
      obtain rfl : r_12 = 0 := hr_12
      refine lv_if_eq (tgt := 64) hx hb d_O_verify_24 (by decide) (fun _ => ?_) (fun h9 => absurd h9 (by decide +kernel))
      refine lv_iinc (v := 10) (lv' := [(2, .int 10), (0, .ref h0), (1, .int a1)]) hx hb d_O_verify_64 hl (k := 0) rfl (by decide +kernel) (by decide) rfl (fun ls hl => ?_)
      refine lv_goto (tgt := 12) hx hb d_O_verify_67 (by decide) ?_
      refine lv_iload_n hx hb d_O_verify_12 rfl (lv_at hl 0 rfl) ?_
      refine lv_bipush (v := 64) hx hb d_O_verify_13 (by decide +kernel) ?_
      refine lv_icmp_ge (tgt := 70) hx hb d_O_verify_15 (by decide) (fun h9 => absurd h9 (by decide +kernel)) (fun _ => ?_)
      refine lv_aload_n hx hb d_O_verify_18 rfl (lv_at hl 1 rfl) ?_
      refine lv_iload_n hx hb d_O_verify_19 rfl (lv_at hl 2 rfl) ?_
      refine lv_iload_n hx hb d_O_verify_20 rfl (lv_at hl 0 rfl) ?_
      have hPc := hP.sub (ws' := [(h0, .inr (7, [.int 0, .int 0, .int (vI σ.go), .ref hbu, .int (nI σ.buf.length), .int (nI σ.nd), .ref hgo, .ref hfi, .ref hma, .ref hln, .ref hau, .ref hsu, .ref hrow, .ref hmade, .int z_madeSize, .ref hbase, .int z_baseSize, .ref htx9, .int z_textSize, .int σ.stp, .ref hot, .int z_otherSize, .ref hpc, .int z_pieceSize, .int z_at, .int z_end, .int z_value])), (hgo, .inl (cZ, 8, .inl ((fg)))), (hfi, .inl (cI, 8, .inl ((ff)))), (hma, .inl (cI, 8, .inl ((fm))))]) [13, 1, 2, 3] rfl
      have hKc := hK.sub (tys' := [(cZ, .boolean), (cI, .int)]) [3, 1] rfl
      refine ps_i (va_runV (As := [.int a1, .int 10]) (rest := []) ⟨hx, hb, hml, hown, hw0⟩ (o_asked_N l dC dI h0 0 0 (vI σ.go) (.ref hbu) (nI σ.buf.length) (.ref hln) (.ref hau) (.ref hsu) (.ref hrow) (.ref hmade) z_madeSize (.ref hbase) z_baseSize (.ref htx9) z_textSize σ.stp (.ref hot) z_otherSize (.ref hpc) z_pieceSize z_at z_end z_value σ.nd hgo cZ (fg) hfi cI (ff) hma (fm) a1 10 (by first | assumption | decide | omega) (by first | assumption | decide | omega)) (cwV 2 hw0 (gd_V 291 292 293 161 294 rfl rfl rfl rfl rfl) rfl rfl rfl (by decide +kernel) ⟨by decide +kernel, by decide +kernel⟩) (prV_R hPc hKc hN (va_recv hKc hPc (ci := 7) (q0 := 0) rfl rfl)) rfl rfl hl.1 rfl (lv_room (Nat.le_of_ble_eq_true rfl)) d_O_verify_21 ⟨by decide +kernel, by decide +kernel⟩) (fun r_13 hr_13 => ?_)
      obtain rfl : r_13 = 0 := hr_13
      refine lv_if_eq (tgt := 64) hx hb d_O_verify_24 (by decide) (fun _ => ?_) (fun h9 => absurd h9 (by decide +kernel))
      refine lv_iinc (v := 11) (lv' := [(2, .int 11), (0, .ref h0), (1, .int a1)]) hx hb d_O_verify_64 hl (k := 0) rfl (by decide +kernel) (by decide) rfl (fun ls hl => ?_)
      refine lv_goto (tgt := 12) hx hb d_O_verify_67 (by decide) ?_
      refine lv_iload_n hx hb d_O_verify_12 rfl (lv_at hl 0 rfl) ?_
      refine lv_bipush (v := 64) hx hb d_O_verify_13 (by decide +kernel) ?_
      refine lv_icmp_ge (tgt := 70) hx hb d_O_verify_15 (by decide) (fun h9 => absurd h9 (by decide +kernel)) (fun _ => ?_)
      refine lv_aload_n hx hb d_O_verify_18 rfl (lv_at hl 1 rfl) ?_
      refine lv_iload_n hx hb d_O_verify_19 rfl (lv_at hl 2 rfl) ?_
      refine lv_iload_n hx hb d_O_verify_20 rfl (lv_at hl 0 rfl) ?_
      have hPc := hP.sub (ws' := [(h0, .inr (7, [.int 0, .int 0, .int (vI σ.go), .ref hbu, .int (nI σ.buf.length), .int (nI σ.nd), .ref hgo, .ref hfi, .ref hma, .ref hln, .ref hau, .ref hsu, .ref hrow, .ref hmade, .int z_madeSize, .ref hbase, .int z_baseSize, .ref htx9, .int z_textSize, .int σ.stp, .ref hot, .int z_otherSize, .ref hpc, .int z_pieceSize, .int z_at, .int z_end, .int z_value])), (hgo, .inl (cZ, 8, .inl ((fg)))), (hfi, .inl (cI, 8, .inl ((ff)))), (hma, .inl (cI, 8, .inl ((fm))))]) [13, 1, 2, 3] rfl
      have hKc := hK.sub (tys' := [(cZ, .boolean), (cI, .int)]) [3, 1] rfl
      refine ps_i (va_runV (As := [.int a1, .int 11]) (rest := []) ⟨hx, hb, hml, hown, hw0⟩ (o_asked_N l dC dI h0 0 0 (vI σ.go) (.ref hbu) (nI σ.buf.length) (.ref hln) (.ref hau) (.ref hsu) (.ref hrow) (.ref hmade) z_madeSize (.ref hbase) z_baseSize (.ref htx9) z_textSize σ.stp (.ref hot) z_otherSize (.ref hpc) z_pieceSize z_at z_end z_value σ.nd hgo cZ (fg) hfi cI (ff) hma (fm) a1 11 (by first | assumption | decide | omega) (by first | assumption | decide | omega)) (cwV 2 hw0 (gd_V 291 292 293 161 294 rfl rfl rfl rfl rfl) rfl rfl rfl (by decide +kernel) ⟨by decide +kernel, by decide +kernel⟩) (prV_R hPc hKc hN (va_recv hKc hPc (ci := 7) (q0 := 0) rfl rfl)) rfl rfl hl.1 rfl (lv_room (Nat.le_of_ble_eq_true rfl)) d_O_verify_21 ⟨by decide +kernel, by decide +kernel⟩) (fun r_14 hr_14 => ?_)
      obtain rfl : r_14 = 0 := hr_14
      refine lv_if_eq (tgt := 64) hx hb d_O_verify_24 (by decide) (fun _ => ?_) (fun h9 => absurd h9 (by decide +kernel))
      refine lv_iinc (v := 12) (lv' := [(2, .int 12), (0, .ref h0), (1, .int a1)]) hx hb d_O_verify_64 hl (k := 0) rfl (by decide +kernel) (by decide) rfl (fun ls hl => ?_)
      refine lv_goto (tgt := 12) hx hb d_O_verify_67 (by decide) ?_
      refine lv_iload_n hx hb d_O_verify_12 rfl (lv_at hl 0 rfl) ?_
      refine lv_bipush (v := 64) hx hb d_O_verify_13 (by decide +kernel) ?_
      refine lv_icmp_ge (tgt := 70) hx hb d_O_verify_15 (by decide) (fun h9 => absurd h9 (by decide +kernel)) (fun _ => ?_)
      refine lv_aload_n hx hb d_O_verify_18 rfl (lv_at hl 1 rfl) ?_
      refine lv_iload_n hx hb d_O_verify_19 rfl (lv_at hl 2 rfl) ?_
      refine lv_iload_n hx hb d_O_verify_20 rfl (lv_at hl 0 rfl) ?_
      have hPc := hP.sub (ws' := [(h0, .inr (7, [.int 0, .int 0, .int (vI σ.go), .ref hbu, .int (nI σ.buf.length), .int (nI σ.nd), .ref hgo, .ref hfi, .ref hma, .ref hln, .ref hau, .ref hsu, .ref hrow, .ref hmade, .int z_madeSize, .ref hbase, .int z_baseSize, .ref htx9, .int z_textSize, .int σ.stp, .ref hot, .int z_otherSize, .ref hpc, .int z_pieceSize, .int z_at, .int z_end, .int z_value])), (hgo, .inl (cZ, 8, .inl ((fg)))), (hfi, .inl (cI, 8, .inl ((ff)))), (hma, .inl (cI, 8, .inl ((fm))))]) [13, 1, 2, 3] rfl
      have hKc := hK.sub (tys' := [(cZ, .boolean), (cI, .int)]) [3, 1] rfl
      refine ps_i (va_runV (As := [.int a1, .int 12]) (rest := []) ⟨hx, hb, hml, hown, hw0⟩ (o_asked_N l dC dI h0 0 0 (vI σ.go) (.ref hbu) (nI σ.buf.length) (.ref hln) (.ref hau) (.ref hsu) (.ref hrow) (.ref hmade) z_madeSize (.ref hbase) z_baseSize (.ref htx9) z_textSize σ.stp (.ref hot) z_otherSize (.ref hpc) z_pieceSize z_at z_end z_value σ.nd hgo cZ (fg) hfi cI (ff) hma (fm) a1 12 (by first | assumption | decide | omega) (by first | assumption | decide | omega)) (cwV 2 hw0 (gd_V 291 292 293 161 294 rfl rfl rfl rfl rfl) rfl rfl rfl (by decide +kernel) ⟨by decide +kernel, by decide +kernel⟩) (prV_R hPc hKc hN (va_recv hKc hPc (ci := 7) (q0 := 0) rfl rfl)) rfl rfl hl.1 rfl (lv_room (Nat.le_of_ble_eq_true rfl)) d_O_verify_21 ⟨by decide +kernel, by decide +kernel⟩) (fun r_15 hr_15 => ?_)
      obtain rfl : r_15 = 0 := hr_15
      refine lv_if_eq (tgt := 64) hx hb d_O_verify_24 (by decide) (fun _ => ?_) (fun h9 => absurd h9 (by decide +kernel))
      refine lv_iinc (v := 13) (lv' := [(2, .int 13), (0, .ref h0), (1, .int a1)]) hx hb d_O_verify_64 hl (k := 0) rfl (by decide +kernel) (by decide) rfl (fun ls hl => ?_)
      refine lv_goto (tgt := 12) hx hb d_O_verify_67 (by decide) ?_
      refine lv_iload_n hx hb d_O_verify_12 rfl (lv_at hl 0 rfl) ?_
      refine lv_bipush (v := 64) hx hb d_O_verify_13 (by decide +kernel) ?_
      refine lv_icmp_ge (tgt := 70) hx hb d_O_verify_15 (by decide) (fun h9 => absurd h9 (by decide +kernel)) (fun _ => ?_)
      refine lv_aload_n hx hb d_O_verify_18 rfl (lv_at hl 1 rfl) ?_
      refine lv_iload_n hx hb d_O_verify_19 rfl (lv_at hl 2 rfl) ?_
      refine lv_iload_n hx hb d_O_verify_20 rfl (lv_at hl 0 rfl) ?_
      have hPc := hP.sub (ws' := [(h0, .inr (7, [.int 0, .int 0, .int (vI σ.go), .ref hbu, .int (nI σ.buf.length), .int (nI σ.nd), .ref hgo, .ref hfi, .ref hma, .ref hln, .ref hau, .ref hsu, .ref hrow, .ref hmade, .int z_madeSize, .ref hbase, .int z_baseSize, .ref htx9, .int z_textSize, .int σ.stp, .ref hot, .int z_otherSize, .ref hpc, .int z_pieceSize, .int z_at, .int z_end, .int z_value])), (hgo, .inl (cZ, 8, .inl ((fg)))), (hfi, .inl (cI, 8, .inl ((ff)))), (hma, .inl (cI, 8, .inl ((fm))))]) [13, 1, 2, 3] rfl
      have hKc := hK.sub (tys' := [(cZ, .boolean), (cI, .int)]) [3, 1] rfl
      refine ps_i (va_runV (As := [.int a1, .int 13]) (rest := []) ⟨hx, hb, hml, hown, hw0⟩ (o_asked_N l dC dI h0 0 0 (vI σ.go) (.ref hbu) (nI σ.buf.length) (.ref hln) (.ref hau) (.ref hsu) (.ref hrow) (.ref hmade) z_madeSize (.ref hbase) z_baseSize (.ref htx9) z_textSize σ.stp (.ref hot) z_otherSize (.ref hpc) z_pieceSize z_at z_end z_value σ.nd hgo cZ (fg) hfi cI (ff) hma (fm) a1 13 (by first | assumption | decide | omega) (by first | assumption | decide | omega)) (cwV 2 hw0 (gd_V 291 292 293 161 294 rfl rfl rfl rfl rfl) rfl rfl rfl (by decide +kernel) ⟨by decide +kernel, by decide +kernel⟩) (prV_R hPc hKc hN (va_recv hKc hPc (ci := 7) (q0 := 0) rfl rfl)) rfl rfl hl.1 rfl (lv_room (Nat.le_of_ble_eq_true rfl)) d_O_verify_21 ⟨by decide +kernel, by decide +kernel⟩) (fun r_16 hr_16 => ?_)
      obtain rfl : r_16 = 0 := hr_16
      refine lv_if_eq (tgt := 64) hx hb d_O_verify_24 (by decide) (fun _ => ?_) (fun h9 => absurd h9 (by decide +kernel))
      refine lv_iinc (v := 14) (lv' := [(2, .int 14), (0, .ref h0), (1, .int a1)]) hx hb d_O_verify_64 hl (k := 0) rfl (by decide +kernel) (by decide) rfl (fun ls hl => ?_)
      refine lv_goto (tgt := 12) hx hb d_O_verify_67 (by decide) ?_
      refine lv_iload_n hx hb d_O_verify_12 rfl (lv_at hl 0 rfl) ?_
      refine lv_bipush (v := 64) hx hb d_O_verify_13 (by decide +kernel) ?_
      refine lv_icmp_ge (tgt := 70) hx hb d_O_verify_15 (by decide) (fun h9 => absurd h9 (by decide +kernel)) (fun _ => ?_)
      refine lv_aload_n hx hb d_O_verify_18 rfl (lv_at hl 1 rfl) ?_
      refine lv_iload_n hx hb d_O_verify_19 rfl (lv_at hl 2 rfl) ?_
      refine lv_iload_n hx hb d_O_verify_20 rfl (lv_at hl 0 rfl) ?_
      have hPc := hP.sub (ws' := [(h0, .inr (7, [.int 0, .int 0, .int (vI σ.go), .ref hbu, .int (nI σ.buf.length), .int (nI σ.nd), .ref hgo, .ref hfi, .ref hma, .ref hln, .ref hau, .ref hsu, .ref hrow, .ref hmade, .int z_madeSize, .ref hbase, .int z_baseSize, .ref htx9, .int z_textSize, .int σ.stp, .ref hot, .int z_otherSize, .ref hpc, .int z_pieceSize, .int z_at, .int z_end, .int z_value])), (hgo, .inl (cZ, 8, .inl ((fg)))), (hfi, .inl (cI, 8, .inl ((ff)))), (hma, .inl (cI, 8, .inl ((fm))))]) [13, 1, 2, 3] rfl
      have hKc := hK.sub (tys' := [(cZ, .boolean), (cI, .int)]) [3, 1] rfl
      refine ps_i (va_runV (As := [.int a1, .int 14]) (rest := []) ⟨hx, hb, hml, hown, hw0⟩ (o_asked_N l dC dI h0 0 0 (vI σ.go) (.ref hbu) (nI σ.buf.length) (.ref hln) (.ref hau) (.ref hsu) (.ref hrow) (.ref hmade) z_madeSize (.ref hbase) z_baseSize (.ref htx9) z_textSize σ.stp (.ref hot) z_otherSize (.ref hpc) z_pieceSize z_at z_end z_value σ.nd hgo cZ (fg) hfi cI (ff) hma (fm) a1 14 (by first | assumption | decide | omega) (by first | assumption | decide | omega)) (cwV 2 hw0 (gd_V 291 292 293 161 294 rfl rfl rfl rfl rfl) rfl rfl rfl (by decide +kernel) ⟨by decide +kernel, by decide +kernel⟩) (prV_R hPc hKc hN (va_recv hKc hPc (ci := 7) (q0 := 0) rfl rfl)) rfl rfl hl.1 rfl (lv_room (Nat.le_of_ble_eq_true rfl)) d_O_verify_21 ⟨by decide +kernel, by decide +kernel⟩) (fun r_17 hr_17 => ?_)
      obtain rfl : r_17 = 0 := hr_17
      refine lv_if_eq (tgt := 64) hx hb d_O_verify_24 (by decide) (fun _ => ?_) (fun h9 => absurd h9 (by decide +kernel))
      refine lv_iinc (v := 15) (lv' := [(2, .int 15), (0, .ref h0), (1, .int a1)]) hx hb d_O_verify_64 hl (k := 0) rfl (by decide +kernel) (by decide) rfl (fun ls hl => ?_)
      refine lv_goto (tgt := 12) hx hb d_O_verify_67 (by decide) ?_
      refine lv_iload_n hx hb d_O_verify_12 rfl (lv_at hl 0 rfl) ?_
      refine lv_bipush (v := 64) hx hb d_O_verify_13 (by decide +kernel) ?_
      refine lv_icmp_ge (tgt := 70) hx hb d_O_verify_15 (by decide) (fun h9 => absurd h9 (by decide +kernel)) (fun _ => ?_)
      refine lv_aload_n hx hb d_O_verify_18 rfl (lv_at hl 1 rfl) ?_
      refine lv_iload_n hx hb d_O_verify_19 rfl (lv_at hl 2 rfl) ?_
      refine lv_iload_n hx hb d_O_verify_20 rfl (lv_at hl 0 rfl) ?_
      have hPc := hP.sub (ws' := [(h0, .inr (7, [.int 0, .int 0, .int (vI σ.go), .ref hbu, .int (nI σ.buf.length), .int (nI σ.nd), .ref hgo, .ref hfi, .ref hma, .ref hln, .ref hau, .ref hsu, .ref hrow, .ref hmade, .int z_madeSize, .ref hbase, .int z_baseSize, .ref htx9, .int z_textSize, .int σ.stp, .ref hot, .int z_otherSize, .ref hpc, .int z_pieceSize, .int z_at, .int z_end, .int z_value])), (hgo, .inl (cZ, 8, .inl ((fg)))), (hfi, .inl (cI, 8, .inl ((ff)))), (hma, .inl (cI, 8, .inl ((fm))))]) [13, 1, 2, 3] rfl
      have hKc := hK.sub (tys' := [(cZ, .boolean), (cI, .int)]) [3, 1] rfl
      refine ps_i (va_runV (As := [.int a1, .int 15]) (rest := []) ⟨hx, hb, hml, hown, hw0⟩ (o_asked_N l dC dI h0 0 0 (vI σ.go) (.ref hbu) (nI σ.buf.length) (.ref hln) (.ref hau) (.ref hsu) (.ref hrow) (.ref hmade) z_madeSize (.ref hbase) z_baseSize (.ref htx9) z_textSize σ.stp (.ref hot) z_otherSize (.ref hpc) z_pieceSize z_at z_end z_value σ.nd hgo cZ (fg) hfi cI (ff) hma (fm) a1 15 (by first | assumption | decide | omega) (by first | assumption | decide | omega)) (cwV 2 hw0 (gd_V 291 292 293 161 294 rfl rfl rfl rfl rfl) rfl rfl rfl (by decide +kernel) ⟨by decide +kernel, by decide +kernel⟩) (prV_R hPc hKc hN (va_recv hKc hPc (ci := 7) (q0 := 0) rfl rfl)) rfl rfl hl.1 rfl (lv_room (Nat.le_of_ble_eq_true rfl)) d_O_verify_21 ⟨by decide +kernel, by decide +kernel⟩) (fun r_18 hr_18 => ?_)
      obtain rfl : r_18 = 0 := hr_18
      refine lv_if_eq (tgt := 64) hx hb d_O_verify_24 (by decide) (fun _ => ?_) (fun h9 => absurd h9 (by decide +kernel))
      refine lv_iinc (v := 16) (lv' := [(2, .int 16), (0, .ref h0), (1, .int a1)]) hx hb d_O_verify_64 hl (k := 0) rfl (by decide +kernel) (by decide) rfl (fun ls hl => ?_)
      refine lv_goto (tgt := 12) hx hb d_O_verify_67 (by decide) ?_
      refine lv_iload_n hx hb d_O_verify_12 rfl (lv_at hl 0 rfl) ?_
      refine lv_bipush (v := 64) hx hb d_O_verify_13 (by decide +kernel) ?_
      refine lv_icmp_ge (tgt := 70) hx hb d_O_verify_15 (by decide) (fun h9 => absurd h9 (by decide +kernel)) (fun _ => ?_)
      refine lv_aload_n hx hb d_O_verify_18 rfl (lv_at hl 1 rfl) ?_
      refine lv_iload_n hx hb d_O_verify_19 rfl (lv_at hl 2 rfl) ?_
      refine lv_iload_n hx hb d_O_verify_20 rfl (lv_at hl 0 rfl) ?_
      have hPc := hP.sub (ws' := [(h0, .inr (7, [.int 0, .int 0, .int (vI σ.go), .ref hbu, .int (nI σ.buf.length), .int (nI σ.nd), .ref hgo, .ref hfi, .ref hma, .ref hln, .ref hau, .ref hsu, .ref hrow, .ref hmade, .int z_madeSize, .ref hbase, .int z_baseSize, .ref htx9, .int z_textSize, .int σ.stp, .ref hot, .int z_otherSize, .ref hpc, .int z_pieceSize, .int z_at, .int z_end, .int z_value])), (hgo, .inl (cZ, 8, .inl ((fg)))), (hfi, .inl (cI, 8, .inl ((ff)))), (hma, .inl (cI, 8, .inl ((fm))))]) [13, 1, 2, 3] rfl
      have hKc := hK.sub (tys' := [(cZ, .boolean), (cI, .int)]) [3, 1] rfl
      refine ps_i (va_runV (As := [.int a1, .int 16]) (rest := []) ⟨hx, hb, hml, hown, hw0⟩ (o_asked_N l dC dI h0 0 0 (vI σ.go) (.ref hbu) (nI σ.buf.length) (.ref hln) (.ref hau) (.ref hsu) (.ref hrow) (.ref hmade) z_madeSize (.ref hbase) z_baseSize (.ref htx9) z_textSize σ.stp (.ref hot) z_otherSize (.ref hpc) z_pieceSize z_at z_end z_value σ.nd hgo cZ (fg) hfi cI (ff) hma (fm) a1 16 (by first | assumption | decide | omega) (by first | assumption | decide | omega)) (cwV 2 hw0 (gd_V 291 292 293 161 294 rfl rfl rfl rfl rfl) rfl rfl rfl (by decide +kernel) ⟨by decide +kernel, by decide +kernel⟩) (prV_R hPc hKc hN (va_recv hKc hPc (ci := 7) (q0 := 0) rfl rfl)) rfl rfl hl.1 rfl (lv_room (Nat.le_of_ble_eq_true rfl)) d_O_verify_21 ⟨by decide +kernel, by decide +kernel⟩) (fun r_19 hr_19 => ?_)
      obtain rfl : r_19 = 0 := hr_19
      refine lv_if_eq (tgt := 64) hx hb d_O_verify_24 (by decide) (fun _ => ?_) (fun h9 => absurd h9 (by decide +kernel))
      refine lv_iinc (v := 17) (lv' := [(2, .int 17), (0, .ref h0), (1, .int a1)]) hx hb d_O_verify_64 hl (k := 0) rfl (by decide +kernel) (by decide) rfl (fun ls hl => ?_)
      refine lv_goto (tgt := 12) hx hb d_O_verify_67 (by decide) ?_
      refine lv_iload_n hx hb d_O_verify_12 rfl (lv_at hl 0 rfl) ?_
      refine lv_bipush (v := 64) hx hb d_O_verify_13 (by decide +kernel) ?_
      refine lv_icmp_ge (tgt := 70) hx hb d_O_verify_15 (by decide) (fun h9 => absurd h9 (by decide +kernel)) (fun _ => ?_)
      refine lv_aload_n hx hb d_O_verify_18 rfl (lv_at hl 1 rfl) ?_
      refine lv_iload_n hx hb d_O_verify_19 rfl (lv_at hl 2 rfl) ?_
      refine lv_iload_n hx hb d_O_verify_20 rfl (lv_at hl 0 rfl) ?_
      have hPc := hP.sub (ws' := [(h0, .inr (7, [.int 0, .int 0, .int (vI σ.go), .ref hbu, .int (nI σ.buf.length), .int (nI σ.nd), .ref hgo, .ref hfi, .ref hma, .ref hln, .ref hau, .ref hsu, .ref hrow, .ref hmade, .int z_madeSize, .ref hbase, .int z_baseSize, .ref htx9, .int z_textSize, .int σ.stp, .ref hot, .int z_otherSize, .ref hpc, .int z_pieceSize, .int z_at, .int z_end, .int z_value])), (hgo, .inl (cZ, 8, .inl ((fg)))), (hfi, .inl (cI, 8, .inl ((ff)))), (hma, .inl (cI, 8, .inl ((fm))))]) [13, 1, 2, 3] rfl
      have hKc := hK.sub (tys' := [(cZ, .boolean), (cI, .int)]) [3, 1] rfl
      refine ps_i (va_runV (As := [.int a1, .int 17]) (rest := []) ⟨hx, hb, hml, hown, hw0⟩ (o_asked_N l dC dI h0 0 0 (vI σ.go) (.ref hbu) (nI σ.buf.length) (.ref hln) (.ref hau) (.ref hsu) (.ref hrow) (.ref hmade) z_madeSize (.ref hbase) z_baseSize (.ref htx9) z_textSize σ.stp (.ref hot) z_otherSize (.ref hpc) z_pieceSize z_at z_end z_value σ.nd hgo cZ (fg) hfi cI (ff) hma (fm) a1 17 (by first | assumption | decide | omega) (by first | assumption | decide | omega)) (cwV 2 hw0 (gd_V 291 292 293 161 294 rfl rfl rfl rfl rfl) rfl rfl rfl (by decide +kernel) ⟨by decide +kernel, by decide +kernel⟩) (prV_R hPc hKc hN (va_recv hKc hPc (ci := 7) (q0 := 0) rfl rfl)) rfl rfl hl.1 rfl (lv_room (Nat.le_of_ble_eq_true rfl)) d_O_verify_21 ⟨by decide +kernel, by decide +kernel⟩) (fun r_20 hr_20 => ?_)
      obtain rfl : r_20 = 0 := hr_20
      refine lv_if_eq (tgt := 64) hx hb d_O_verify_24 (by decide) (fun _ => ?_) (fun h9 => absurd h9 (by decide +kernel))
      refine lv_iinc (v := 18) (lv' := [(2, .int 18), (0, .ref h0), (1, .int a1)]) hx hb d_O_verify_64 hl (k := 0) rfl (by decide +kernel) (by decide) rfl (fun ls hl => ?_)
      refine lv_goto (tgt := 12) hx hb d_O_verify_67 (by decide) ?_
      refine lv_iload_n hx hb d_O_verify_12 rfl (lv_at hl 0 rfl) ?_
      refine lv_bipush (v := 64) hx hb d_O_verify_13 (by decide +kernel) ?_
      refine lv_icmp_ge (tgt := 70) hx hb d_O_verify_15 (by decide) (fun h9 => absurd h9 (by decide +kernel)) (fun _ => ?_)
      refine lv_aload_n hx hb d_O_verify_18 rfl (lv_at hl 1 rfl) ?_
      refine lv_iload_n hx hb d_O_verify_19 rfl (lv_at hl 2 rfl) ?_
      refine lv_iload_n hx hb d_O_verify_20 rfl (lv_at hl 0 rfl) ?_
      have hPc := hP.sub (ws' := [(h0, .inr (7, [.int 0, .int 0, .int (vI σ.go), .ref hbu, .int (nI σ.buf.length), .int (nI σ.nd), .ref hgo, .ref hfi, .ref hma, .ref hln, .ref hau, .ref hsu, .ref hrow, .ref hmade, .int z_madeSize, .ref hbase, .int z_baseSize, .ref htx9, .int z_textSize, .int σ.stp, .ref hot, .int z_otherSize, .ref hpc, .int z_pieceSize, .int z_at, .int z_end, .int z_value])), (hgo, .inl (cZ, 8, .inl ((fg)))), (hfi, .inl (cI, 8, .inl ((ff)))), (hma, .inl (cI, 8, .inl ((fm))))]) [13, 1, 2, 3] rfl
      have hKc := hK.sub (tys' := [(cZ, .boolean), (cI, .int)]) [3, 1] rfl
      refine ps_i (va_runV (As := [.int a1, .int 18]) (rest := []) ⟨hx, hb, hml, hown, hw0⟩ (o_asked_N l dC dI h0 0 0 (vI σ.go) (.ref hbu) (nI σ.buf.length) (.ref hln) (.ref hau) (.ref hsu) (.ref hrow) (.ref hmade) z_madeSize (.ref hbase) z_baseSize (.ref htx9) z_textSize σ.stp (.ref hot) z_otherSize (.ref hpc) z_pieceSize z_at z_end z_value σ.nd hgo cZ (fg) hfi cI (ff) hma (fm) a1 18 (by first | assumption | decide | omega) (by first | assumption | decide | omega)) (cwV 2 hw0 (gd_V 291 292 293 161 294 rfl rfl rfl rfl rfl) rfl rfl rfl (by decide +kernel) ⟨by decide +kernel, by decide +kernel⟩) (prV_R hPc hKc hN (va_recv hKc hPc (ci := 7) (q0 := 0) rfl rfl)) rfl rfl hl.1 rfl (lv_room (Nat.le_of_ble_eq_true rfl)) d_O_verify_21 ⟨by decide +kernel, by decide +kernel⟩) (fun r_21 hr_21 => ?_)
      obtain rfl : r_21 = 0 := hr_21
      refine lv_if_eq (tgt := 64) hx hb d_O_verify_24 (by decide) (fun _ => ?_) (fun h9 => absurd h9 (by decide +kernel))
      refine lv_iinc (v := 19) (lv' := [(2, .int 19), (0, .ref h0), (1, .int a1)]) hx hb d_O_verify_64 hl (k := 0) rfl (by decide +kernel) (by decide) rfl (fun ls hl => ?_)
      refine lv_goto (tgt := 12) hx hb d_O_verify_67 (by decide) ?_
      refine lv_iload_n hx hb d_O_verify_12 rfl (lv_at hl 0 rfl) ?_
      refine lv_bipush (v := 64) hx hb d_O_verify_13 (by decide +kernel) ?_
      refine lv_icmp_ge (tgt := 70) hx hb d_O_verify_15 (by decide) (fun h9 => absurd h9 (by decide +kernel)) (fun _ => ?_)
      refine lv_aload_n hx hb d_O_verify_18 rfl (lv_at hl 1 rfl) ?_
      refine lv_iload_n hx hb d_O_verify_19 rfl (lv_at hl 2 rfl) ?_
      refine lv_iload_n hx hb d_O_verify_20 rfl (lv_at hl 0 rfl) ?_
      have hPc := hP.sub (ws' := [(h0, .inr (7, [.int 0, .int 0, .int (vI σ.go), .ref hbu, .int (nI σ.buf.length), .int (nI σ.nd), .ref hgo, .ref hfi, .ref hma, .ref hln, .ref hau, .ref hsu, .ref hrow, .ref hmade, .int z_madeSize, .ref hbase, .int z_baseSize, .ref htx9, .int z_textSize, .int σ.stp, .ref hot, .int z_otherSize, .ref hpc, .int z_pieceSize, .int z_at, .int z_end, .int z_value])), (hgo, .inl (cZ, 8, .inl ((fg)))), (hfi, .inl (cI, 8, .inl ((ff)))), (hma, .inl (cI, 8, .inl ((fm))))]) [13, 1, 2, 3] rfl
      have hKc := hK.sub (tys' := [(cZ, .boolean), (cI, .int)]) [3, 1] rfl
      refine ps_i (va_runV (As := [.int a1, .int 19]) (rest := []) ⟨hx, hb, hml, hown, hw0⟩ (o_asked_N l dC dI h0 0 0 (vI σ.go) (.ref hbu) (nI σ.buf.length) (.ref hln) (.ref hau) (.ref hsu) (.ref hrow) (.ref hmade) z_madeSize (.ref hbase) z_baseSize (.ref htx9) z_textSize σ.stp (.ref hot) z_otherSize (.ref hpc) z_pieceSize z_at z_end z_value σ.nd hgo cZ (fg) hfi cI (ff) hma (fm) a1 19 (by first | assumption | decide | omega) (by first | assumption | decide | omega)) (cwV 2 hw0 (gd_V 291 292 293 161 294 rfl rfl rfl rfl rfl) rfl rfl rfl (by decide +kernel) ⟨by decide +kernel, by decide +kernel⟩) (prV_R hPc hKc hN (va_recv hKc hPc (ci := 7) (q0 := 0) rfl rfl)) rfl rfl hl.1 rfl (lv_room (Nat.le_of_ble_eq_true rfl)) d_O_verify_21 ⟨by decide +kernel, by decide +kernel⟩) (fun r_22 hr_22 => ?_)
      obtain rfl : r_22 = 0 := hr_22
      refine lv_if_eq (tgt := 64) hx hb d_O_verify_24 (by decide) (fun _ => ?_) (fun h9 => absurd h9 (by decide +kernel))
      refine lv_iinc (v := 20) (lv' := [(2, .int 20), (0, .ref h0), (1, .int a1)]) hx hb d_O_verify_64 hl (k := 0) rfl (by decide +kernel) (by decide) rfl (fun ls hl => ?_)
      refine lv_goto (tgt := 12) hx hb d_O_verify_67 (by decide) ?_
      refine lv_iload_n hx hb d_O_verify_12 rfl (lv_at hl 0 rfl) ?_
      refine lv_bipush (v := 64) hx hb d_O_verify_13 (by decide +kernel) ?_
      refine lv_icmp_ge (tgt := 70) hx hb d_O_verify_15 (by decide) (fun h9 => absurd h9 (by decide +kernel)) (fun _ => ?_)
      refine lv_aload_n hx hb d_O_verify_18 rfl (lv_at hl 1 rfl) ?_
      refine lv_iload_n hx hb d_O_verify_19 rfl (lv_at hl 2 rfl) ?_
      refine lv_iload_n hx hb d_O_verify_20 rfl (lv_at hl 0 rfl) ?_
      have hPc := hP.sub (ws' := [(h0, .inr (7, [.int 0, .int 0, .int (vI σ.go), .ref hbu, .int (nI σ.buf.length), .int (nI σ.nd), .ref hgo, .ref hfi, .ref hma, .ref hln, .ref hau, .ref hsu, .ref hrow, .ref hmade, .int z_madeSize, .ref hbase, .int z_baseSize, .ref htx9, .int z_textSize, .int σ.stp, .ref hot, .int z_otherSize, .ref hpc, .int z_pieceSize, .int z_at, .int z_end, .int z_value])), (hgo, .inl (cZ, 8, .inl ((fg)))), (hfi, .inl (cI, 8, .inl ((ff)))), (hma, .inl (cI, 8, .inl ((fm))))]) [13, 1, 2, 3] rfl
      have hKc := hK.sub (tys' := [(cZ, .boolean), (cI, .int)]) [3, 1] rfl
      refine ps_i (va_runV (As := [.int a1, .int 20]) (rest := []) ⟨hx, hb, hml, hown, hw0⟩ (o_asked_N l dC dI h0 0 0 (vI σ.go) (.ref hbu) (nI σ.buf.length) (.ref hln) (.ref hau) (.ref hsu) (.ref hrow) (.ref hmade) z_madeSize (.ref hbase) z_baseSize (.ref htx9) z_textSize σ.stp (.ref hot) z_otherSize (.ref hpc) z_pieceSize z_at z_end z_value σ.nd hgo cZ (fg) hfi cI (ff) hma (fm) a1 20 (by first | assumption | decide | omega) (by first | assumption | decide | omega)) (cwV 2 hw0 (gd_V 291 292 293 161 294 rfl rfl rfl rfl rfl) rfl rfl rfl (by decide +kernel) ⟨by decide +kernel, by decide +kernel⟩) (prV_R hPc hKc hN (va_recv hKc hPc (ci := 7) (q0 := 0) rfl rfl)) rfl rfl hl.1 rfl (lv_room (Nat.le_of_ble_eq_true rfl)) d_O_verify_21 ⟨by decide +kernel, by decide +kernel⟩) (fun r_23 hr_23 => ?_)
      obtain rfl : r_23 = 0 := hr_23
      refine lv_if_eq (tgt := 64) hx hb d_O_verify_24 (by decide) (fun _ => ?_) (fun h9 => absurd h9 (by decide +kernel))
      refine lv_iinc (v := 21) (lv' := [(2, .int 21), (0, .ref h0), (1, .int a1)]) hx hb d_O_verify_64 hl (k := 0) rfl (by decide +kernel) (by decide) rfl (fun ls hl => ?_)
      refine lv_goto (tgt := 12) hx hb d_O_verify_67 (by decide) ?_
      refine lv_iload_n hx hb d_O_verify_12 rfl (lv_at hl 0 rfl) ?_
      refine lv_bipush (v := 64) hx hb d_O_verify_13 (by decide +kernel) ?_
      refine lv_icmp_ge (tgt := 70) hx hb d_O_verify_15 (by decide) (fun h9 => absurd h9 (by decide +kernel)) (fun _ => ?_)
      refine lv_aload_n hx hb d_O_verify_18 rfl (lv_at hl 1 rfl) ?_
      refine lv_iload_n hx hb d_O_verify_19 rfl (lv_at hl 2 rfl) ?_
      refine lv_iload_n hx hb d_O_verify_20 rfl (lv_at hl 0 rfl) ?_
      have hPc := hP.sub (ws' := [(h0, .inr (7, [.int 0, .int 0, .int (vI σ.go), .ref hbu, .int (nI σ.buf.length), .int (nI σ.nd), .ref hgo, .ref hfi, .ref hma, .ref hln, .ref hau, .ref hsu, .ref hrow, .ref hmade, .int z_madeSize, .ref hbase, .int z_baseSize, .ref htx9, .int z_textSize, .int σ.stp, .ref hot, .int z_otherSize, .ref hpc, .int z_pieceSize, .int z_at, .int z_end, .int z_value])), (hgo, .inl (cZ, 8, .inl ((fg)))), (hfi, .inl (cI, 8, .inl ((ff)))), (hma, .inl (cI, 8, .inl ((fm))))]) [13, 1, 2, 3] rfl
      have hKc := hK.sub (tys' := [(cZ, .boolean), (cI, .int)]) [3, 1] rfl
      refine ps_i (va_runV (As := [.int a1, .int 21]) (rest := []) ⟨hx, hb, hml, hown, hw0⟩ (o_asked_N l dC dI h0 0 0 (vI σ.go) (.ref hbu) (nI σ.buf.length) (.ref hln) (.ref hau) (.ref hsu) (.ref hrow) (.ref hmade) z_madeSize (.ref hbase) z_baseSize (.ref htx9) z_textSize σ.stp (.ref hot) z_otherSize (.ref hpc) z_pieceSize z_at z_end z_value σ.nd hgo cZ (fg) hfi cI (ff) hma (fm) a1 21 (by first | assumption | decide | omega) (by first | assumption | decide | omega)) (cwV 2 hw0 (gd_V 291 292 293 161 294 rfl rfl rfl rfl rfl) rfl rfl rfl (by decide +kernel) ⟨by decide +kernel, by decide +kernel⟩) (prV_R hPc hKc hN (va_recv hKc hPc (ci := 7) (q0 := 0) rfl rfl)) rfl rfl hl.1 rfl (lv_room (Nat.le_of_ble_eq_true rfl)) d_O_verify_21 ⟨by decide +kernel, by decide +kernel⟩) (fun r_24 hr_24 => ?_)
      obtain rfl : r_24 = 0 := hr_24
      refine lv_if_eq (tgt := 64) hx hb d_O_verify_24 (by decide) (fun _ => ?_) (fun h9 => absurd h9 (by decide +kernel))
      refine lv_iinc (v := 22) (lv' := [(2, .int 22), (0, .ref h0), (1, .int a1)]) hx hb d_O_verify_64 hl (k := 0) rfl (by decide +kernel) (by decide) rfl (fun ls hl => ?_)
      refine lv_goto (tgt := 12) hx hb d_O_verify_67 (by decide) ?_
      refine lv_iload_n hx hb d_O_verify_12 rfl (lv_at hl 0 rfl) ?_
      refine lv_bipush (v := 64) hx hb d_O_verify_13 (by decide +kernel) ?_
      refine lv_icmp_ge (tgt := 70) hx hb d_O_verify_15 (by decide) (fun h9 => absurd h9 (by decide +kernel)) (fun _ => ?_)
      refine lv_aload_n hx hb d_O_verify_18 rfl (lv_at hl 1 rfl) ?_
      refine lv_iload_n hx hb d_O_verify_19 rfl (lv_at hl 2 rfl) ?_
      refine lv_iload_n hx hb d_O_verify_20 rfl (lv_at hl 0 rfl) ?_
      have hPc := hP.sub (ws' := [(h0, .inr (7, [.int 0, .int 0, .int (vI σ.go), .ref hbu, .int (nI σ.buf.length), .int (nI σ.nd), .ref hgo, .ref hfi, .ref hma, .ref hln, .ref hau, .ref hsu, .ref hrow, .ref hmade, .int z_madeSize, .ref hbase, .int z_baseSize, .ref htx9, .int z_textSize, .int σ.stp, .ref hot, .int z_otherSize, .ref hpc, .int z_pieceSize, .int z_at, .int z_end, .int z_value])), (hgo, .inl (cZ, 8, .inl ((fg)))), (hfi, .inl (cI, 8, .inl ((ff)))), (hma, .inl (cI, 8, .inl ((fm))))]) [13, 1, 2, 3] rfl
      have hKc := hK.sub (tys' := [(cZ, .boolean), (cI, .int)]) [3, 1] rfl
      refine ps_i (va_runV (As := [.int a1, .int 22]) (rest := []) ⟨hx, hb, hml, hown, hw0⟩ (o_asked_N l dC dI h0 0 0 (vI σ.go) (.ref hbu) (nI σ.buf.length) (.ref hln) (.ref hau) (.ref hsu) (.ref hrow) (.ref hmade) z_madeSize (.ref hbase) z_baseSize (.ref htx9) z_textSize σ.stp (.ref hot) z_otherSize (.ref hpc) z_pieceSize z_at z_end z_value σ.nd hgo cZ (fg) hfi cI (ff) hma (fm) a1 22 (by first | assumption | decide | omega) (by first | assumption | decide | omega)) (cwV 2 hw0 (gd_V 291 292 293 161 294 rfl rfl rfl rfl rfl) rfl rfl rfl (by decide +kernel) ⟨by decide +kernel, by decide +kernel⟩) (prV_R hPc hKc hN (va_recv hKc hPc (ci := 7) (q0 := 0) rfl rfl)) rfl rfl hl.1 rfl (lv_room (Nat.le_of_ble_eq_true rfl)) d_O_verify_21 ⟨by decide +kernel, by decide +kernel⟩) (fun r_25 hr_25 => ?_)
      obtain rfl : r_25 = 0 := hr_25
      refine lv_if_eq (tgt := 64) hx hb d_O_verify_24 (by decide) (fun _ => ?_) (fun h9 => absurd h9 (by decide +kernel))
      refine lv_iinc (v := 23) (lv' := [(2, .int 23), (0, .ref h0), (1, .int a1)]) hx hb d_O_verify_64 hl (k := 0) rfl (by decide +kernel) (by decide) rfl (fun ls hl => ?_)
      refine lv_goto (tgt := 12) hx hb d_O_verify_67 (by decide) ?_
      refine lv_iload_n hx hb d_O_verify_12 rfl (lv_at hl 0 rfl) ?_
      refine lv_bipush (v := 64) hx hb d_O_verify_13 (by decide +kernel) ?_
      refine lv_icmp_ge (tgt := 70) hx hb d_O_verify_15 (by decide) (fun h9 => absurd h9 (by decide +kernel)) (fun _ => ?_)
      refine lv_aload_n hx hb d_O_verify_18 rfl (lv_at hl 1 rfl) ?_
      refine lv_iload_n hx hb d_O_verify_19 rfl (lv_at hl 2 rfl) ?_
      refine lv_iload_n hx hb d_O_verify_20 rfl (lv_at hl 0 rfl) ?_
      have hPc := hP.sub (ws' := [(h0, .inr (7, [.int 0, .int 0, .int (vI σ.go), .ref hbu, .int (nI σ.buf.length), .int (nI σ.nd), .ref hgo, .ref hfi, .ref hma, .ref hln, .ref hau, .ref hsu, .ref hrow, .ref hmade, .int z_madeSize, .ref hbase, .int z_baseSize, .ref htx9, .int z_textSize, .int σ.stp, .ref hot, .int z_otherSize, .ref hpc, .int z_pieceSize, .int z_at, .int z_end, .int z_value])), (hgo, .inl (cZ, 8, .inl ((fg)))), (hfi, .inl (cI, 8, .inl ((ff)))), (hma, .inl (cI, 8, .inl ((fm))))]) [13, 1, 2, 3] rfl
      have hKc := hK.sub (tys' := [(cZ, .boolean), (cI, .int)]) [3, 1] rfl
      refine ps_i (va_runV (As := [.int a1, .int 23]) (rest := []) ⟨hx, hb, hml, hown, hw0⟩ (o_asked_N l dC dI h0 0 0 (vI σ.go) (.ref hbu) (nI σ.buf.length) (.ref hln) (.ref hau) (.ref hsu) (.ref hrow) (.ref hmade) z_madeSize (.ref hbase) z_baseSize (.ref htx9) z_textSize σ.stp (.ref hot) z_otherSize (.ref hpc) z_pieceSize z_at z_end z_value σ.nd hgo cZ (fg) hfi cI (ff) hma (fm) a1 23 (by first | assumption | decide | omega) (by first | assumption | decide | omega)) (cwV 2 hw0 (gd_V 291 292 293 161 294 rfl rfl rfl rfl rfl) rfl rfl rfl (by decide +kernel) ⟨by decide +kernel, by decide +kernel⟩) (prV_R hPc hKc hN (va_recv hKc hPc (ci := 7) (q0 := 0) rfl rfl)) rfl rfl hl.1 rfl (lv_room (Nat.le_of_ble_eq_true rfl)) d_O_verify_21 ⟨by decide +kernel, by decide +kernel⟩) (fun r_26 hr_26 => ?_)
      obtain rfl : r_26 = 0 := hr_26
      refine lv_if_eq (tgt := 64) hx hb d_O_verify_24 (by decide) (fun _ => ?_) (fun h9 => absurd h9 (by decide +kernel))
      refine lv_iinc (v := 24) (lv' := [(2, .int 24), (0, .ref h0), (1, .int a1)]) hx hb d_O_verify_64 hl (k := 0) rfl (by decide +kernel) (by decide) rfl (fun ls hl => ?_)
      refine lv_goto (tgt := 12) hx hb d_O_verify_67 (by decide) ?_
      refine lv_iload_n hx hb d_O_verify_12 rfl (lv_at hl 0 rfl) ?_
      refine lv_bipush (v := 64) hx hb d_O_verify_13 (by decide +kernel) ?_
      refine lv_icmp_ge (tgt := 70) hx hb d_O_verify_15 (by decide) (fun h9 => absurd h9 (by decide +kernel)) (fun _ => ?_)
      refine lv_aload_n hx hb d_O_verify_18 rfl (lv_at hl 1 rfl) ?_
      refine lv_iload_n hx hb d_O_verify_19 rfl (lv_at hl 2 rfl) ?_
      refine lv_iload_n hx hb d_O_verify_20 rfl (lv_at hl 0 rfl) ?_
      have hPc := hP.sub (ws' := [(h0, .inr (7, [.int 0, .int 0, .int (vI σ.go), .ref hbu, .int (nI σ.buf.length), .int (nI σ.nd), .ref hgo, .ref hfi, .ref hma, .ref hln, .ref hau, .ref hsu, .ref hrow, .ref hmade, .int z_madeSize, .ref hbase, .int z_baseSize, .ref htx9, .int z_textSize, .int σ.stp, .ref hot, .int z_otherSize, .ref hpc, .int z_pieceSize, .int z_at, .int z_end, .int z_value])), (hgo, .inl (cZ, 8, .inl ((fg)))), (hfi, .inl (cI, 8, .inl ((ff)))), (hma, .inl (cI, 8, .inl ((fm))))]) [13, 1, 2, 3] rfl
      have hKc := hK.sub (tys' := [(cZ, .boolean), (cI, .int)]) [3, 1] rfl
      refine ps_i (va_runV (As := [.int a1, .int 24]) (rest := []) ⟨hx, hb, hml, hown, hw0⟩ (o_asked_N l dC dI h0 0 0 (vI σ.go) (.ref hbu) (nI σ.buf.length) (.ref hln) (.ref hau) (.ref hsu) (.ref hrow) (.ref hmade) z_madeSize (.ref hbase) z_baseSize (.ref htx9) z_textSize σ.stp (.ref hot) z_otherSize (.ref hpc) z_pieceSize z_at z_end z_value σ.nd hgo cZ (fg) hfi cI (ff) hma (fm) a1 24 (by first | assumption | decide | omega) (by first | assumption | decide | omega)) (cwV 2 hw0 (gd_V 291 292 293 161 294 rfl rfl rfl rfl rfl) rfl rfl rfl (by decide +kernel) ⟨by decide +kernel, by decide +kernel⟩) (prV_R hPc hKc hN (va_recv hKc hPc (ci := 7) (q0 := 0) rfl rfl)) rfl rfl hl.1 rfl (lv_room (Nat.le_of_ble_eq_true rfl)) d_O_verify_21 ⟨by decide +kernel, by decide +kernel⟩) (fun r_27 hr_27 => ?_)
      obtain rfl : r_27 = 0 := hr_27
      refine lv_if_eq (tgt := 64) hx hb d_O_verify_24 (by decide) (fun _ => ?_) (fun h9 => absurd h9 (by decide +kernel))
      refine lv_iinc (v := 25) (lv' := [(2, .int 25), (0, .ref h0), (1, .int a1)]) hx hb d_O_verify_64 hl (k := 0) rfl (by decide +kernel) (by decide) rfl (fun ls hl => ?_)
      refine lv_goto (tgt := 12) hx hb d_O_verify_67 (by decide) ?_
      refine lv_iload_n hx hb d_O_verify_12 rfl (lv_at hl 0 rfl) ?_
      refine lv_bipush (v := 64) hx hb d_O_verify_13 (by decide +kernel) ?_
      refine lv_icmp_ge (tgt := 70) hx hb d_O_verify_15 (by decide) (fun h9 => absurd h9 (by decide +kernel)) (fun _ => ?_)
      refine lv_aload_n hx hb d_O_verify_18 rfl (lv_at hl 1 rfl) ?_
      refine lv_iload_n hx hb d_O_verify_19 rfl (lv_at hl 2 rfl) ?_
      refine lv_iload_n hx hb d_O_verify_20 rfl (lv_at hl 0 rfl) ?_
      have hPc := hP.sub (ws' := [(h0, .inr (7, [.int 0, .int 0, .int (vI σ.go), .ref hbu, .int (nI σ.buf.length), .int (nI σ.nd), .ref hgo, .ref hfi, .ref hma, .ref hln, .ref hau, .ref hsu, .ref hrow, .ref hmade, .int z_madeSize, .ref hbase, .int z_baseSize, .ref htx9, .int z_textSize, .int σ.stp, .ref hot, .int z_otherSize, .ref hpc, .int z_pieceSize, .int z_at, .int z_end, .int z_value])), (hgo, .inl (cZ, 8, .inl ((fg)))), (hfi, .inl (cI, 8, .inl ((ff)))), (hma, .inl (cI, 8, .inl ((fm))))]) [13, 1, 2, 3] rfl
      have hKc := hK.sub (tys' := [(cZ, .boolean), (cI, .int)]) [3, 1] rfl
      refine ps_i (va_runV (As := [.int a1, .int 25]) (rest := []) ⟨hx, hb, hml, hown, hw0⟩ (o_asked_N l dC dI h0 0 0 (vI σ.go) (.ref hbu) (nI σ.buf.length) (.ref hln) (.ref hau) (.ref hsu) (.ref hrow) (.ref hmade) z_madeSize (.ref hbase) z_baseSize (.ref htx9) z_textSize σ.stp (.ref hot) z_otherSize (.ref hpc) z_pieceSize z_at z_end z_value σ.nd hgo cZ (fg) hfi cI (ff) hma (fm) a1 25 (by first | assumption | decide | omega) (by first | assumption | decide | omega)) (cwV 2 hw0 (gd_V 291 292 293 161 294 rfl rfl rfl rfl rfl) rfl rfl rfl (by decide +kernel) ⟨by decide +kernel, by decide +kernel⟩) (prV_R hPc hKc hN (va_recv hKc hPc (ci := 7) (q0 := 0) rfl rfl)) rfl rfl hl.1 rfl (lv_room (Nat.le_of_ble_eq_true rfl)) d_O_verify_21 ⟨by decide +kernel, by decide +kernel⟩) (fun r_28 hr_28 => ?_)
      obtain rfl : r_28 = 0 := hr_28
      refine lv_if_eq (tgt := 64) hx hb d_O_verify_24 (by decide) (fun _ => ?_) (fun h9 => absurd h9 (by decide +kernel))
      refine lv_iinc (v := 26) (lv' := [(2, .int 26), (0, .ref h0), (1, .int a1)]) hx hb d_O_verify_64 hl (k := 0) rfl (by decide +kernel) (by decide) rfl (fun ls hl => ?_)
      refine lv_goto (tgt := 12) hx hb d_O_verify_67 (by decide) ?_
      refine lv_iload_n hx hb d_O_verify_12 rfl (lv_at hl 0 rfl) ?_
      refine lv_bipush (v := 64) hx hb d_O_verify_13 (by decide +kernel) ?_
      refine lv_icmp_ge (tgt := 70) hx hb d_O_verify_15 (by decide) (fun h9 => absurd h9 (by decide +kernel)) (fun _ => ?_)
      refine lv_aload_n hx hb d_O_verify_18 rfl (lv_at hl 1 rfl) ?_
      refine lv_iload_n hx hb d_O_verify_19 rfl (lv_at hl 2 rfl) ?_
      refine lv_iload_n hx hb d_O_verify_20 rfl (lv_at hl 0 rfl) ?_
      have hPc := hP.sub (ws' := [(h0, .inr (7, [.int 0, .int 0, .int (vI σ.go), .ref hbu, .int (nI σ.buf.length), .int (nI σ.nd), .ref hgo, .ref hfi, .ref hma, .ref hln, .ref hau, .ref hsu, .ref hrow, .ref hmade, .int z_madeSize, .ref hbase, .int z_baseSize, .ref htx9, .int z_textSize, .int σ.stp, .ref hot, .int z_otherSize, .ref hpc, .int z_pieceSize, .int z_at, .int z_end, .int z_value])), (hgo, .inl (cZ, 8, .inl ((fg)))), (hfi, .inl (cI, 8, .inl ((ff)))), (hma, .inl (cI, 8, .inl ((fm))))]) [13, 1, 2, 3] rfl
      have hKc := hK.sub (tys' := [(cZ, .boolean), (cI, .int)]) [3, 1] rfl
      refine ps_i (va_runV (As := [.int a1, .int 26]) (rest := []) ⟨hx, hb, hml, hown, hw0⟩ (o_asked_N l dC dI h0 0 0 (vI σ.go) (.ref hbu) (nI σ.buf.length) (.ref hln) (.ref hau) (.ref hsu) (.ref hrow) (.ref hmade) z_madeSize (.ref hbase) z_baseSize (.ref htx9) z_textSize σ.stp (.ref hot) z_otherSize (.ref hpc) z_pieceSize z_at z_end z_value σ.nd hgo cZ (fg) hfi cI (ff) hma (fm) a1 26 (by first | assumption | decide | omega) (by first | assumption | decide | omega)) (cwV 2 hw0 (gd_V 291 292 293 161 294 rfl rfl rfl rfl rfl) rfl rfl rfl (by decide +kernel) ⟨by decide +kernel, by decide +kernel⟩) (prV_R hPc hKc hN (va_recv hKc hPc (ci := 7) (q0 := 0) rfl rfl)) rfl rfl hl.1 rfl (lv_room (Nat.le_of_ble_eq_true rfl)) d_O_verify_21 ⟨by decide +kernel, by decide +kernel⟩) (fun r_29 hr_29 => ?_)
      obtain rfl : r_29 = 0 := hr_29
      refine lv_if_eq (tgt := 64) hx hb d_O_verify_24 (by decide) (fun _ => ?_) (fun h9 => absurd h9 (by decide +kernel))
      refine lv_iinc (v := 27) (lv' := [(2, .int 27), (0, .ref h0), (1, .int a1)]) hx hb d_O_verify_64 hl (k := 0) rfl (by decide +kernel) (by decide) rfl (fun ls hl => ?_)
      refine lv_goto (tgt := 12) hx hb d_O_verify_67 (by decide) ?_
      refine lv_iload_n hx hb d_O_verify_12 rfl (lv_at hl 0 rfl) ?_
      refine lv_bipush (v := 64) hx hb d_O_verify_13 (by decide +kernel) ?_
      refine lv_icmp_ge (tgt := 70) hx hb d_O_verify_15 (by decide) (fun h9 => absurd h9 (by decide +kernel)) (fun _ => ?_)
      refine lv_aload_n hx hb d_O_verify_18 rfl (lv_at hl 1 rfl) ?_
      refine lv_iload_n hx hb d_O_verify_19 rfl (lv_at hl 2 rfl) ?_
      refine lv_iload_n hx hb d_O_verify_20 rfl (lv_at hl 0 rfl) ?_
      have hPc := hP.sub (ws' := [(h0, .inr (7, [.int 0, .int 0, .int (vI σ.go), .ref hbu, .int (nI σ.buf.length), .int (nI σ.nd), .ref hgo, .ref hfi, .ref hma, .ref hln, .ref hau, .ref hsu, .ref hrow, .ref hmade, .int z_madeSize, .ref hbase, .int z_baseSize, .ref htx9, .int z_textSize, .int σ.stp, .ref hot, .int z_otherSize, .ref hpc, .int z_pieceSize, .int z_at, .int z_end, .int z_value])), (hgo, .inl (cZ, 8, .inl ((fg)))), (hfi, .inl (cI, 8, .inl ((ff)))), (hma, .inl (cI, 8, .inl ((fm))))]) [13, 1, 2, 3] rfl
      have hKc := hK.sub (tys' := [(cZ, .boolean), (cI, .int)]) [3, 1] rfl
      refine ps_i (va_runV (As := [.int a1, .int 27]) (rest := []) ⟨hx, hb, hml, hown, hw0⟩ (o_asked_N l dC dI h0 0 0 (vI σ.go) (.ref hbu) (nI σ.buf.length) (.ref hln) (.ref hau) (.ref hsu) (.ref hrow) (.ref hmade) z_madeSize (.ref hbase) z_baseSize (.ref htx9) z_textSize σ.stp (.ref hot) z_otherSize (.ref hpc) z_pieceSize z_at z_end z_value σ.nd hgo cZ (fg) hfi cI (ff) hma (fm) a1 27 (by first | assumption | decide | omega) (by first | assumption | decide | omega)) (cwV 2 hw0 (gd_V 291 292 293 161 294 rfl rfl rfl rfl rfl) rfl rfl rfl (by decide +kernel) ⟨by decide +kernel, by decide +kernel⟩) (prV_R hPc hKc hN (va_recv hKc hPc (ci := 7) (q0 := 0) rfl rfl)) rfl rfl hl.1 rfl (lv_room (Nat.le_of_ble_eq_true rfl)) d_O_verify_21 ⟨by decide +kernel, by decide +kernel⟩) (fun r_30 hr_30 => ?_)
      obtain rfl : r_30 = 0 := hr_30
      refine lv_if_eq (tgt := 64) hx hb d_O_verify_24 (by decide) (fun _ => ?_) (fun h9 => absurd h9 (by decide +kernel))
      refine lv_iinc (v := 28) (lv' := [(2, .int 28), (0, .ref h0), (1, .int a1)]) hx hb d_O_verify_64 hl (k := 0) rfl (by decide +kernel) (by decide) rfl (fun ls hl => ?_)
      refine lv_goto (tgt := 12) hx hb d_O_verify_67 (by decide) ?_
      refine lv_iload_n hx hb d_O_verify_12 rfl (lv_at hl 0 rfl) ?_
      refine lv_bipush (v := 64) hx hb d_O_verify_13 (by decide +kernel) ?_
      refine lv_icmp_ge (tgt := 70) hx hb d_O_verify_15 (by decide) (fun h9 => absurd h9 (by decide +kernel)) (fun _ => ?_)
      refine lv_aload_n hx hb d_O_verify_18 rfl (lv_at hl 1 rfl) ?_
      refine lv_iload_n hx hb d_O_verify_19 rfl (lv_at hl 2 rfl) ?_
      refine lv_iload_n hx hb d_O_verify_20 rfl (lv_at hl 0 rfl) ?_
      have hPc := hP.sub (ws' := [(h0, .inr (7, [.int 0, .int 0, .int (vI σ.go), .ref hbu, .int (nI σ.buf.length), .int (nI σ.nd), .ref hgo, .ref hfi, .ref hma, .ref hln, .ref hau, .ref hsu, .ref hrow, .ref hmade, .int z_madeSize, .ref hbase, .int z_baseSize, .ref htx9, .int z_textSize, .int σ.stp, .ref hot, .int z_otherSize, .ref hpc, .int z_pieceSize, .int z_at, .int z_end, .int z_value])), (hgo, .inl (cZ, 8, .inl ((fg)))), (hfi, .inl (cI, 8, .inl ((ff)))), (hma, .inl (cI, 8, .inl ((fm))))]) [13, 1, 2, 3] rfl
      have hKc := hK.sub (tys' := [(cZ, .boolean), (cI, .int)]) [3, 1] rfl
      refine ps_i (va_runV (As := [.int a1, .int 28]) (rest := []) ⟨hx, hb, hml, hown, hw0⟩ (o_asked_N l dC dI h0 0 0 (vI σ.go) (.ref hbu) (nI σ.buf.length) (.ref hln) (.ref hau) (.ref hsu) (.ref hrow) (.ref hmade) z_madeSize (.ref hbase) z_baseSize (.ref htx9) z_textSize σ.stp (.ref hot) z_otherSize (.ref hpc) z_pieceSize z_at z_end z_value σ.nd hgo cZ (fg) hfi cI (ff) hma (fm) a1 28 (by first | assumption | decide | omega) (by first | assumption | decide | omega)) (cwV 2 hw0 (gd_V 291 292 293 161 294 rfl rfl rfl rfl rfl) rfl rfl rfl (by decide +kernel) ⟨by decide +kernel, by decide +kernel⟩) (prV_R hPc hKc hN (va_recv hKc hPc (ci := 7) (q0 := 0) rfl rfl)) rfl rfl hl.1 rfl (lv_room (Nat.le_of_ble_eq_true rfl)) d_O_verify_21 ⟨by decide +kernel, by decide +kernel⟩) (fun r_31 hr_31 => ?_)
      obtain rfl : r_31 = 0 := hr_31
      refine lv_if_eq (tgt := 64) hx hb d_O_verify_24 (by decide) (fun _ => ?_) (fun h9 => absurd h9 (by decide +kernel))
      refine lv_iinc (v := 29) (lv' := [(2, .int 29), (0, .ref h0), (1, .int a1)]) hx hb d_O_verify_64 hl (k := 0) rfl (by decide +kernel) (by decide) rfl (fun ls hl => ?_)
      refine lv_goto (tgt := 12) hx hb d_O_verify_67 (by decide) ?_
      refine lv_iload_n hx hb d_O_verify_12 rfl (lv_at hl 0 rfl) ?_
      refine lv_bipush (v := 64) hx hb d_O_verify_13 (by decide +kernel) ?_
      refine lv_icmp_ge (tgt := 70) hx hb d_O_verify_15 (by decide) (fun h9 => absurd h9 (by decide +kernel)) (fun _ => ?_)
      refine lv_aload_n hx hb d_O_verify_18 rfl (lv_at hl 1 rfl) ?_
      refine lv_iload_n hx hb d_O_verify_19 rfl (lv_at hl 2 rfl) ?_
      refine lv_iload_n hx hb d_O_verify_20 rfl (lv_at hl 0 rfl) ?_
      have hPc := hP.sub (ws' := [(h0, .inr (7, [.int 0, .int 0, .int (vI σ.go), .ref hbu, .int (nI σ.buf.length), .int (nI σ.nd), .ref hgo, .ref hfi, .ref hma, .ref hln, .ref hau, .ref hsu, .ref hrow, .ref hmade, .int z_madeSize, .ref hbase, .int z_baseSize, .ref htx9, .int z_textSize, .int σ.stp, .ref hot, .int z_otherSize, .ref hpc, .int z_pieceSize, .int z_at, .int z_end, .int z_value])), (hgo, .inl (cZ, 8, .inl ((fg)))), (hfi, .inl (cI, 8, .inl ((ff)))), (hma, .inl (cI, 8, .inl ((fm))))]) [13, 1, 2, 3] rfl
      have hKc := hK.sub (tys' := [(cZ, .boolean), (cI, .int)]) [3, 1] rfl
      refine ps_i (va_runV (As := [.int a1, .int 29]) (rest := []) ⟨hx, hb, hml, hown, hw0⟩ (o_asked_N l dC dI h0 0 0 (vI σ.go) (.ref hbu) (nI σ.buf.length) (.ref hln) (.ref hau) (.ref hsu) (.ref hrow) (.ref hmade) z_madeSize (.ref hbase) z_baseSize (.ref htx9) z_textSize σ.stp (.ref hot) z_otherSize (.ref hpc) z_pieceSize z_at z_end z_value σ.nd hgo cZ (fg) hfi cI (ff) hma (fm) a1 29 (by first | assumption | decide | omega) (by first | assumption | decide | omega)) (cwV 2 hw0 (gd_V 291 292 293 161 294 rfl rfl rfl rfl rfl) rfl rfl rfl (by decide +kernel) ⟨by decide +kernel, by decide +kernel⟩) (prV_R hPc hKc hN (va_recv hKc hPc (ci := 7) (q0 := 0) rfl rfl)) rfl rfl hl.1 rfl (lv_room (Nat.le_of_ble_eq_true rfl)) d_O_verify_21 ⟨by decide +kernel, by decide +kernel⟩) (fun r_32 hr_32 => ?_)
      obtain rfl : r_32 = 0 := hr_32
      refine lv_if_eq (tgt := 64) hx hb d_O_verify_24 (by decide) (fun _ => ?_) (fun h9 => absurd h9 (by decide +kernel))
      refine lv_iinc (v := 30) (lv' := [(2, .int 30), (0, .ref h0), (1, .int a1)]) hx hb d_O_verify_64 hl (k := 0) rfl (by decide +kernel) (by decide) rfl (fun ls hl => ?_)
      refine lv_goto (tgt := 12) hx hb d_O_verify_67 (by decide) ?_
      refine lv_iload_n hx hb d_O_verify_12 rfl (lv_at hl 0 rfl) ?_
      refine lv_bipush (v := 64) hx hb d_O_verify_13 (by decide +kernel) ?_
      refine lv_icmp_ge (tgt := 70) hx hb d_O_verify_15 (by decide) (fun h9 => absurd h9 (by decide +kernel)) (fun _ => ?_)
      refine lv_aload_n hx hb d_O_verify_18 rfl (lv_at hl 1 rfl) ?_
      refine lv_iload_n hx hb d_O_verify_19 rfl (lv_at hl 2 rfl) ?_
      refine lv_iload_n hx hb d_O_verify_20 rfl (lv_at hl 0 rfl) ?_
      have hPc := hP.sub (ws' := [(h0, .inr (7, [.int 0, .int 0, .int (vI σ.go), .ref hbu, .int (nI σ.buf.length), .int (nI σ.nd), .ref hgo, .ref hfi, .ref hma, .ref hln, .ref hau, .ref hsu, .ref hrow, .ref hmade, .int z_madeSize, .ref hbase, .int z_baseSize, .ref htx9, .int z_textSize, .int σ.stp, .ref hot, .int z_otherSize, .ref hpc, .int z_pieceSize, .int z_at, .int z_end, .int z_value])), (hgo, .inl (cZ, 8, .inl ((fg)))), (hfi, .inl (cI, 8, .inl ((ff)))), (hma, .inl (cI, 8, .inl ((fm))))]) [13, 1, 2, 3] rfl
      have hKc := hK.sub (tys' := [(cZ, .boolean), (cI, .int)]) [3, 1] rfl
      refine ps_i (va_runV (As := [.int a1, .int 30]) (rest := []) ⟨hx, hb, hml, hown, hw0⟩ (o_asked_N l dC dI h0 0 0 (vI σ.go) (.ref hbu) (nI σ.buf.length) (.ref hln) (.ref hau) (.ref hsu) (.ref hrow) (.ref hmade) z_madeSize (.ref hbase) z_baseSize (.ref htx9) z_textSize σ.stp (.ref hot) z_otherSize (.ref hpc) z_pieceSize z_at z_end z_value σ.nd hgo cZ (fg) hfi cI (ff) hma (fm) a1 30 (by first | assumption | decide | omega) (by first | assumption | decide | omega)) (cwV 2 hw0 (gd_V 291 292 293 161 294 rfl rfl rfl rfl rfl) rfl rfl rfl (by decide +kernel) ⟨by decide +kernel, by decide +kernel⟩) (prV_R hPc hKc hN (va_recv hKc hPc (ci := 7) (q0 := 0) rfl rfl)) rfl rfl hl.1 rfl (lv_room (Nat.le_of_ble_eq_true rfl)) d_O_verify_21 ⟨by decide +kernel, by decide +kernel⟩) (fun r_33 hr_33 => ?_)
      obtain rfl : r_33 = 0 := hr_33
      refine lv_if_eq (tgt := 64) hx hb d_O_verify_24 (by decide) (fun _ => ?_) (fun h9 => absurd h9 (by decide +kernel))
      refine lv_iinc (v := 31) (lv' := [(2, .int 31), (0, .ref h0), (1, .int a1)]) hx hb d_O_verify_64 hl (k := 0) rfl (by decide +kernel) (by decide) rfl (fun ls hl => ?_)
      refine lv_goto (tgt := 12) hx hb d_O_verify_67 (by decide) ?_
      refine lv_iload_n hx hb d_O_verify_12 rfl (lv_at hl 0 rfl) ?_
      refine lv_bipush (v := 64) hx hb d_O_verify_13 (by decide +kernel) ?_
      refine lv_icmp_ge (tgt := 70) hx hb d_O_verify_15 (by decide) (fun h9 => absurd h9 (by decide +kernel)) (fun _ => ?_)
      refine lv_aload_n hx hb d_O_verify_18 rfl (lv_at hl 1 rfl) ?_
      refine lv_iload_n hx hb d_O_verify_19 rfl (lv_at hl 2 rfl) ?_
      refine lv_iload_n hx hb d_O_verify_20 rfl (lv_at hl 0 rfl) ?_
      have hPc := hP.sub (ws' := [(h0, .inr (7, [.int 0, .int 0, .int (vI σ.go), .ref hbu, .int (nI σ.buf.length), .int (nI σ.nd), .ref hgo, .ref hfi, .ref hma, .ref hln, .ref hau, .ref hsu, .ref hrow, .ref hmade, .int z_madeSize, .ref hbase, .int z_baseSize, .ref htx9, .int z_textSize, .int σ.stp, .ref hot, .int z_otherSize, .ref hpc, .int z_pieceSize, .int z_at, .int z_end, .int z_value])), (hgo, .inl (cZ, 8, .inl ((fg)))), (hfi, .inl (cI, 8, .inl ((ff)))), (hma, .inl (cI, 8, .inl ((fm))))]) [13, 1, 2, 3] rfl
      have hKc := hK.sub (tys' := [(cZ, .boolean), (cI, .int)]) [3, 1] rfl
      refine ps_i (va_runV (As := [.int a1, .int 31]) (rest := []) ⟨hx, hb, hml, hown, hw0⟩ (o_asked_N l dC dI h0 0 0 (vI σ.go) (.ref hbu) (nI σ.buf.length) (.ref hln) (.ref hau) (.ref hsu) (.ref hrow) (.ref hmade) z_madeSize (.ref hbase) z_baseSize (.ref htx9) z_textSize σ.stp (.ref hot) z_otherSize (.ref hpc) z_pieceSize z_at z_end z_value σ.nd hgo cZ (fg) hfi cI (ff) hma (fm) a1 31 (by first | assumption | decide | omega) (by first | assumption | decide | omega)) (cwV 2 hw0 (gd_V 291 292 293 161 294 rfl rfl rfl rfl rfl) rfl rfl rfl (by decide +kernel) ⟨by decide +kernel, by decide +kernel⟩) (prV_R hPc hKc hN (va_recv hKc hPc (ci := 7) (q0 := 0) rfl rfl)) rfl rfl hl.1 rfl (lv_room (Nat.le_of_ble_eq_true rfl)) d_O_verify_21 ⟨by decide +kernel, by decide +kernel⟩) (fun r_34 hr_34 => ?_)
      obtain rfl : r_34 = 0 := hr_34
      refine lv_if_eq (tgt := 64) hx hb d_O_verify_24 (by decide) (fun _ => ?_) (fun h9 => absurd h9 (by decide +kernel))
      refine lv_iinc (v := 32) (lv' := [(2, .int 32), (0, .ref h0), (1, .int a1)]) hx hb d_O_verify_64 hl (k := 0) rfl (by decide +kernel) (by decide) rfl (fun ls hl => ?_)
      refine lv_goto (tgt := 12) hx hb d_O_verify_67 (by decide) ?_
      refine lv_iload_n hx hb d_O_verify_12 rfl (lv_at hl 0 rfl) ?_
      refine lv_bipush (v := 64) hx hb d_O_verify_13 (by decide +kernel) ?_
      refine lv_icmp_ge (tgt := 70) hx hb d_O_verify_15 (by decide) (fun h9 => absurd h9 (by decide +kernel)) (fun _ => ?_)
      refine lv_aload_n hx hb d_O_verify_18 rfl (lv_at hl 1 rfl) ?_
      refine lv_iload_n hx hb d_O_verify_19 rfl (lv_at hl 2 rfl) ?_
      refine lv_iload_n hx hb d_O_verify_20 rfl (lv_at hl 0 rfl) ?_
      have hPc := hP.sub (ws' := [(h0, .inr (7, [.int 0, .int 0, .int (vI σ.go), .ref hbu, .int (nI σ.buf.length), .int (nI σ.nd), .ref hgo, .ref hfi, .ref hma, .ref hln, .ref hau, .ref hsu, .ref hrow, .ref hmade, .int z_madeSize, .ref hbase, .int z_baseSize, .ref htx9, .int z_textSize, .int σ.stp, .ref hot, .int z_otherSize, .ref hpc, .int z_pieceSize, .int z_at, .int z_end, .int z_value])), (hgo, .inl (cZ, 8, .inl ((fg)))), (hfi, .inl (cI, 8, .inl ((ff)))), (hma, .inl (cI, 8, .inl ((fm))))]) [13, 1, 2, 3] rfl
      have hKc := hK.sub (tys' := [(cZ, .boolean), (cI, .int)]) [3, 1] rfl
      refine ps_i (va_runV (As := [.int a1, .int 32]) (rest := []) ⟨hx, hb, hml, hown, hw0⟩ (o_asked_N l dC dI h0 0 0 (vI σ.go) (.ref hbu) (nI σ.buf.length) (.ref hln) (.ref hau) (.ref hsu) (.ref hrow) (.ref hmade) z_madeSize (.ref hbase) z_baseSize (.ref htx9) z_textSize σ.stp (.ref hot) z_otherSize (.ref hpc) z_pieceSize z_at z_end z_value σ.nd hgo cZ (fg) hfi cI (ff) hma (fm) a1 32 (by first | assumption | decide | omega) (by first | assumption | decide | omega)) (cwV 2 hw0 (gd_V 291 292 293 161 294 rfl rfl rfl rfl rfl) rfl rfl rfl (by decide +kernel) ⟨by decide +kernel, by decide +kernel⟩) (prV_R hPc hKc hN (va_recv hKc hPc (ci := 7) (q0 := 0) rfl rfl)) rfl rfl hl.1 rfl (lv_room (Nat.le_of_ble_eq_true rfl)) d_O_verify_21 ⟨by decide +kernel, by decide +kernel⟩) (fun r_35 hr_35 => ?_)
      obtain rfl : r_35 = 0 := hr_35
      refine lv_if_eq (tgt := 64) hx hb d_O_verify_24 (by decide) (fun _ => ?_) (fun h9 => absurd h9 (by decide +kernel))
      refine lv_iinc (v := 33) (lv' := [(2, .int 33), (0, .ref h0), (1, .int a1)]) hx hb d_O_verify_64 hl (k := 0) rfl (by decide +kernel) (by decide) rfl (fun ls hl => ?_)
      refine lv_goto (tgt := 12) hx hb d_O_verify_67 (by decide) ?_
      refine lv_iload_n hx hb d_O_verify_12 rfl (lv_at hl 0 rfl) ?_
      refine lv_bipush (v := 64) hx hb d_O_verify_13 (by decide +kernel) ?_
      refine lv_icmp_ge (tgt := 70) hx hb d_O_verify_15 (by decide) (fun h9 => absurd h9 (by decide +kernel)) (fun _ => ?_)
      refine lv_aload_n hx hb d_O_verify_18 rfl (lv_at hl 1 rfl) ?_
      refine lv_iload_n hx hb d_O_verify_19 rfl (lv_at hl 2 rfl) ?_
      refine lv_iload_n hx hb d_O_verify_20 rfl (lv_at hl 0 rfl) ?_
      have hPc := hP.sub (ws' := [(h0, .inr (7, [.int 0, .int 0, .int (vI σ.go), .ref hbu, .int (nI σ.buf.length), .int (nI σ.nd), .ref hgo, .ref hfi, .ref hma, .ref hln, .ref hau, .ref hsu, .ref hrow, .ref hmade, .int z_madeSize, .ref hbase, .int z_baseSize, .ref htx9, .int z_textSize, .int σ.stp, .ref hot, .int z_otherSize, .ref hpc, .int z_pieceSize, .int z_at, .int z_end, .int z_value])), (hgo, .inl (cZ, 8, .inl ((fg)))), (hfi, .inl (cI, 8, .inl ((ff)))), (hma, .inl (cI, 8, .inl ((fm))))]) [13, 1, 2, 3] rfl
      have hKc := hK.sub (tys' := [(cZ, .boolean), (cI, .int)]) [3, 1] rfl
      refine ps_i (va_runV (As := [.int a1, .int 33]) (rest := []) ⟨hx, hb, hml, hown, hw0⟩ (o_asked_N l dC dI h0 0 0 (vI σ.go) (.ref hbu) (nI σ.buf.length) (.ref hln) (.ref hau) (.ref hsu) (.ref hrow) (.ref hmade) z_madeSize (.ref hbase) z_baseSize (.ref htx9) z_textSize σ.stp (.ref hot) z_otherSize (.ref hpc) z_pieceSize z_at z_end z_value σ.nd hgo cZ (fg) hfi cI (ff) hma (fm) a1 33 (by first | assumption | decide | omega) (by first | assumption | decide | omega)) (cwV 2 hw0 (gd_V 291 292 293 161 294 rfl rfl rfl rfl rfl) rfl rfl rfl (by decide +kernel) ⟨by decide +kernel, by decide +kernel⟩) (prV_R hPc hKc hN (va_recv hKc hPc (ci := 7) (q0 := 0) rfl rfl)) rfl rfl hl.1 rfl (lv_room (Nat.le_of_ble_eq_true rfl)) d_O_verify_21 ⟨by decide +kernel, by decide +kernel⟩) (fun r_36 hr_36 => ?_)
      obtain rfl : r_36 = 0 := hr_36
      refine lv_if_eq (tgt := 64) hx hb d_O_verify_24 (by decide) (fun _ => ?_) (fun h9 => absurd h9 (by decide +kernel))
      refine lv_iinc (v := 34) (lv' := [(2, .int 34), (0, .ref h0), (1, .int a1)]) hx hb d_O_verify_64 hl (k := 0) rfl (by decide +kernel) (by decide) rfl (fun ls hl => ?_)
      refine lv_goto (tgt := 12) hx hb d_O_verify_67 (by decide) ?_
      refine lv_iload_n hx hb d_O_verify_12 rfl (lv_at hl 0 rfl) ?_
      refine lv_bipush (v := 64) hx hb d_O_verify_13 (by decide +kernel) ?_
      refine lv_icmp_ge (tgt := 70) hx hb d_O_verify_15 (by decide) (fun h9 => absurd h9 (by decide +kernel)) (fun _ => ?_)
      refine lv_aload_n hx hb d_O_verify_18 rfl (lv_at hl 1 rfl) ?_
      refine lv_iload_n hx hb d_O_verify_19 rfl (lv_at hl 2 rfl) ?_
      refine lv_iload_n hx hb d_O_verify_20 rfl (lv_at hl 0 rfl) ?_
      have hPc := hP.sub (ws' := [(h0, .inr (7, [.int 0, .int 0, .int (vI σ.go), .ref hbu, .int (nI σ.buf.length), .int (nI σ.nd), .ref hgo, .ref hfi, .ref hma, .ref hln, .ref hau, .ref hsu, .ref hrow, .ref hmade, .int z_madeSize, .ref hbase, .int z_baseSize, .ref htx9, .int z_textSize, .int σ.stp, .ref hot, .int z_otherSize, .ref hpc, .int z_pieceSize, .int z_at, .int z_end, .int z_value])), (hgo, .inl (cZ, 8, .inl ((fg)))), (hfi, .inl (cI, 8, .inl ((ff)))), (hma, .inl (cI, 8, .inl ((fm))))]) [13, 1, 2, 3] rfl
      have hKc := hK.sub (tys' := [(cZ, .boolean), (cI, .int)]) [3, 1] rfl
      refine ps_i (va_runV (As := [.int a1, .int 34]) (rest := []) ⟨hx, hb, hml, hown, hw0⟩ (o_asked_N l dC dI h0 0 0 (vI σ.go) (.ref hbu) (nI σ.buf.length) (.ref hln) (.ref hau) (.ref hsu) (.ref hrow) (.ref hmade) z_madeSize (.ref hbase) z_baseSize (.ref htx9) z_textSize σ.stp (.ref hot) z_otherSize (.ref hpc) z_pieceSize z_at z_end z_value σ.nd hgo cZ (fg) hfi cI (ff) hma (fm) a1 34 (by first | assumption | decide | omega) (by first | assumption | decide | omega)) (cwV 2 hw0 (gd_V 291 292 293 161 294 rfl rfl rfl rfl rfl) rfl rfl rfl (by decide +kernel) ⟨by decide +kernel, by decide +kernel⟩) (prV_R hPc hKc hN (va_recv hKc hPc (ci := 7) (q0 := 0) rfl rfl)) rfl rfl hl.1 rfl (lv_room (Nat.le_of_ble_eq_true rfl)) d_O_verify_21 ⟨by decide +kernel, by decide +kernel⟩) (fun r_37 hr_37 => ?_)
      obtain rfl : r_37 = 0 := hr_37
      refine lv_if_eq (tgt := 64) hx hb d_O_verify_24 (by decide) (fun _ => ?_) (fun h9 => absurd h9 (by decide +kernel))
      refine lv_iinc (v := 35) (lv' := [(2, .int 35), (0, .ref h0), (1, .int a1)]) hx hb d_O_verify_64 hl (k := 0) rfl (by decide +kernel) (by decide) rfl (fun ls hl => ?_)
      refine lv_goto (tgt := 12) hx hb d_O_verify_67 (by decide) ?_
      refine lv_iload_n hx hb d_O_verify_12 rfl (lv_at hl 0 rfl) ?_
      refine lv_bipush (v := 64) hx hb d_O_verify_13 (by decide +kernel) ?_
      refine lv_icmp_ge (tgt := 70) hx hb d_O_verify_15 (by decide) (fun h9 => absurd h9 (by decide +kernel)) (fun _ => ?_)
      refine lv_aload_n hx hb d_O_verify_18 rfl (lv_at hl 1 rfl) ?_
      refine lv_iload_n hx hb d_O_verify_19 rfl (lv_at hl 2 rfl) ?_
      refine lv_iload_n hx hb d_O_verify_20 rfl (lv_at hl 0 rfl) ?_
      have hPc := hP.sub (ws' := [(h0, .inr (7, [.int 0, .int 0, .int (vI σ.go), .ref hbu, .int (nI σ.buf.length), .int (nI σ.nd), .ref hgo, .ref hfi, .ref hma, .ref hln, .ref hau, .ref hsu, .ref hrow, .ref hmade, .int z_madeSize, .ref hbase, .int z_baseSize, .ref htx9, .int z_textSize, .int σ.stp, .ref hot, .int z_otherSize, .ref hpc, .int z_pieceSize, .int z_at, .int z_end, .int z_value])), (hgo, .inl (cZ, 8, .inl ((fg)))), (hfi, .inl (cI, 8, .inl ((ff)))), (hma, .inl (cI, 8, .inl ((fm))))]) [13, 1, 2, 3] rfl
      have hKc := hK.sub (tys' := [(cZ, .boolean), (cI, .int)]) [3, 1] rfl
      refine ps_i (va_runV (As := [.int a1, .int 35]) (rest := []) ⟨hx, hb, hml, hown, hw0⟩ (o_asked_N l dC dI h0 0 0 (vI σ.go) (.ref hbu) (nI σ.buf.length) (.ref hln) (.ref hau) (.ref hsu) (.ref hrow) (.ref hmade) z_madeSize (.ref hbase) z_baseSize (.ref htx9) z_textSize σ.stp (.ref hot) z_otherSize (.ref hpc) z_pieceSize z_at z_end z_value σ.nd hgo cZ (fg) hfi cI (ff) hma (fm) a1 35 (by first | assumption | decide | omega) (by first | assumption | decide | omega)) (cwV 2 hw0 (gd_V 291 292 293 161 294 rfl rfl rfl rfl rfl) rfl rfl rfl (by decide +kernel) ⟨by decide +kernel, by decide +kernel⟩) (prV_R hPc hKc hN (va_recv hKc hPc (ci := 7) (q0 := 0) rfl rfl)) rfl rfl hl.1 rfl (lv_room (Nat.le_of_ble_eq_true rfl)) d_O_verify_21 ⟨by decide +kernel, by decide +kernel⟩) (fun r_38 hr_38 => ?_)
      obtain rfl : r_38 = 0 := hr_38
      refine lv_if_eq (tgt := 64) hx hb d_O_verify_24 (by decide) (fun _ => ?_) (fun h9 => absurd h9 (by decide +kernel))
      refine lv_iinc (v := 36) (lv' := [(2, .int 36), (0, .ref h0), (1, .int a1)]) hx hb d_O_verify_64 hl (k := 0) rfl (by decide +kernel) (by decide) rfl (fun ls hl => ?_)
      refine lv_goto (tgt := 12) hx hb d_O_verify_67 (by decide) ?_
      refine lv_iload_n hx hb d_O_verify_12 rfl (lv_at hl 0 rfl) ?_
      refine lv_bipush (v := 64) hx hb d_O_verify_13 (by decide +kernel) ?_
      refine lv_icmp_ge (tgt := 70) hx hb d_O_verify_15 (by decide) (fun h9 => absurd h9 (by decide +kernel)) (fun _ => ?_)
      refine lv_aload_n hx hb d_O_verify_18 rfl (lv_at hl 1 rfl) ?_
      refine lv_iload_n hx hb d_O_verify_19 rfl (lv_at hl 2 rfl) ?_
      refine lv_iload_n hx hb d_O_verify_20 rfl (lv_at hl 0 rfl) ?_
      have hPc := hP.sub (ws' := [(h0, .inr (7, [.int 0, .int 0, .int (vI σ.go), .ref hbu, .int (nI σ.buf.length), .int (nI σ.nd), .ref hgo, .ref hfi, .ref hma, .ref hln, .ref hau, .ref hsu, .ref hrow, .ref hmade, .int z_madeSize, .ref hbase, .int z_baseSize, .ref htx9, .int z_textSize, .int σ.stp, .ref hot, .int z_otherSize, .ref hpc, .int z_pieceSize, .int z_at, .int z_end, .int z_value])), (hgo, .inl (cZ, 8, .inl ((fg)))), (hfi, .inl (cI, 8, .inl ((ff)))), (hma, .inl (cI, 8, .inl ((fm))))]) [13, 1, 2, 3] rfl
      have hKc := hK.sub (tys' := [(cZ, .boolean), (cI, .int)]) [3, 1] rfl
      refine ps_i (va_runV (As := [.int a1, .int 36]) (rest := []) ⟨hx, hb, hml, hown, hw0⟩ (o_asked_N l dC dI h0 0 0 (vI σ.go) (.ref hbu) (nI σ.buf.length) (.ref hln) (.ref hau) (.ref hsu) (.ref hrow) (.ref hmade) z_madeSize (.ref hbase) z_baseSize (.ref htx9) z_textSize σ.stp (.ref hot) z_otherSize (.ref hpc) z_pieceSize z_at z_end z_value σ.nd hgo cZ (fg) hfi cI (ff) hma (fm) a1 36 (by first | assumption | decide | omega) (by first | assumption | decide | omega)) (cwV 2 hw0 (gd_V 291 292 293 161 294 rfl rfl rfl rfl rfl) rfl rfl rfl (by decide +kernel) ⟨by decide +kernel, by decide +kernel⟩) (prV_R hPc hKc hN (va_recv hKc hPc (ci := 7) (q0 := 0) rfl rfl)) rfl rfl hl.1 rfl (lv_room (Nat.le_of_ble_eq_true rfl)) d_O_verify_21 ⟨by decide +kernel, by decide +kernel⟩) (fun r_39 hr_39 => ?_)
      obtain rfl : r_39 = 0 := hr_39
      refine lv_if_eq (tgt := 64) hx hb d_O_verify_24 (by decide) (fun _ => ?_) (fun h9 => absurd h9 (by decide +kernel))
      refine lv_iinc (v := 37) (lv' := [(2, .int 37), (0, .ref h0), (1, .int a1)]) hx hb d_O_verify_64 hl (k := 0) rfl (by decide +kernel) (by decide) rfl (fun ls hl => ?_)
      refine lv_goto (tgt := 12) hx hb d_O_verify_67 (by decide) ?_
      refine lv_iload_n hx hb d_O_verify_12 rfl (lv_at hl 0 rfl) ?_
      refine lv_bipush (v := 64) hx hb d_O_verify_13 (by decide +kernel) ?_
      refine lv_icmp_ge (tgt := 70) hx hb d_O_verify_15 (by decide) (fun h9 => absurd h9 (by decide +kernel)) (fun _ => ?_)
      refine lv_aload_n hx hb d_O_verify_18 rfl (lv_at hl 1 rfl) ?_
      refine lv_iload_n hx hb d_O_verify_19 rfl (lv_at hl 2 rfl) ?_
      refine lv_iload_n hx hb d_O_verify_20 rfl (lv_at hl 0 rfl) ?_
      have hPc := hP.sub (ws' := [(h0, .inr (7, [.int 0, .int 0, .int (vI σ.go), .ref hbu, .int (nI σ.buf.length), .int (nI σ.nd), .ref hgo, .ref hfi, .ref hma, .ref hln, .ref hau, .ref hsu, .ref hrow, .ref hmade, .int z_madeSize, .ref hbase, .int z_baseSize, .ref htx9, .int z_textSize, .int σ.stp, .ref hot, .int z_otherSize, .ref hpc, .int z_pieceSize, .int z_at, .int z_end, .int z_value])), (hgo, .inl (cZ, 8, .inl ((fg)))), (hfi, .inl (cI, 8, .inl ((ff)))), (hma, .inl (cI, 8, .inl ((fm))))]) [13, 1, 2, 3] rfl
      have hKc := hK.sub (tys' := [(cZ, .boolean), (cI, .int)]) [3, 1] rfl
      refine ps_i (va_runV (As := [.int a1, .int 37]) (rest := []) ⟨hx, hb, hml, hown, hw0⟩ (o_asked_N l dC dI h0 0 0 (vI σ.go) (.ref hbu) (nI σ.buf.length) (.ref hln) (.ref hau) (.ref hsu) (.ref hrow) (.ref hmade) z_madeSize (.ref hbase) z_baseSize (.ref htx9) z_textSize σ.stp (.ref hot) z_otherSize (.ref hpc) z_pieceSize z_at z_end z_value σ.nd hgo cZ (fg) hfi cI (ff) hma (fm) a1 37 (by first | assumption | decide | omega) (by first | assumption | decide | omega)) (cwV 2 hw0 (gd_V 291 292 293 161 294 rfl rfl rfl rfl rfl) rfl rfl rfl (by decide +kernel) ⟨by decide +kernel, by decide +kernel⟩) (prV_R hPc hKc hN (va_recv hKc hPc (ci := 7) (q0 := 0) rfl rfl)) rfl rfl hl.1 rfl (lv_room (Nat.le_of_ble_eq_true rfl)) d_O_verify_21 ⟨by decide +kernel, by decide +kernel⟩) (fun r_40 hr_40 => ?_)
      obtain rfl : r_40 = 0 := hr_40
      refine lv_if_eq (tgt := 64) hx hb d_O_verify_24 (by decide) (fun _ => ?_) (fun h9 => absurd h9 (by decide +kernel))
      refine lv_iinc (v := 38) (lv' := [(2, .int 38), (0, .ref h0), (1, .int a1)]) hx hb d_O_verify_64 hl (k := 0) rfl (by decide +kernel) (by decide) rfl (fun ls hl => ?_)
      refine lv_goto (tgt := 12) hx hb d_O_verify_67 (by decide) ?_
      refine lv_iload_n hx hb d_O_verify_12 rfl (lv_at hl 0 rfl) ?_
      refine lv_bipush (v := 64) hx hb d_O_verify_13 (by decide +kernel) ?_
      refine lv_icmp_ge (tgt := 70) hx hb d_O_verify_15 (by decide) (fun h9 => absurd h9 (by decide +kernel)) (fun _ => ?_)
      refine lv_aload_n hx hb d_O_verify_18 rfl (lv_at hl 1 rfl) ?_
      refine lv_iload_n hx hb d_O_verify_19 rfl (lv_at hl 2 rfl) ?_
      refine lv_iload_n hx hb d_O_verify_20 rfl (lv_at hl 0 rfl) ?_
      have hPc := hP.sub (ws' := [(h0, .inr (7, [.int 0, .int 0, .int (vI σ.go), .ref hbu, .int (nI σ.buf.length), .int (nI σ.nd), .ref hgo, .ref hfi, .ref hma, .ref hln, .ref hau, .ref hsu, .ref hrow, .ref hmade, .int z_madeSize, .ref hbase, .int z_baseSize, .ref htx9, .int z_textSize, .int σ.stp, .ref hot, .int z_otherSize, .ref hpc, .int z_pieceSize, .int z_at, .int z_end, .int z_value])), (hgo, .inl (cZ, 8, .inl ((fg)))), (hfi, .inl (cI, 8, .inl ((ff)))), (hma, .inl (cI, 8, .inl ((fm))))]) [13, 1, 2, 3] rfl
      have hKc := hK.sub (tys' := [(cZ, .boolean), (cI, .int)]) [3, 1] rfl
      refine ps_i (va_runV (As := [.int a1, .int 38]) (rest := []) ⟨hx, hb, hml, hown, hw0⟩ (o_asked_N l dC dI h0 0 0 (vI σ.go) (.ref hbu) (nI σ.buf.length) (.ref hln) (.ref hau) (.ref hsu) (.ref hrow) (.ref hmade) z_madeSize (.ref hbase) z_baseSize (.ref htx9) z_textSize σ.stp (.ref hot) z_otherSize (.ref hpc) z_pieceSize z_at z_end z_value σ.nd hgo cZ (fg) hfi cI (ff) hma (fm) a1 38 (by first | assumption | decide | omega) (by first | assumption | decide | omega)) (cwV 2 hw0 (gd_V 291 292 293 161 294 rfl rfl rfl rfl rfl) rfl rfl rfl (by decide +kernel) ⟨by decide +kernel, by decide +kernel⟩) (prV_R hPc hKc hN (va_recv hKc hPc (ci := 7) (q0 := 0) rfl rfl)) rfl rfl hl.1 rfl (lv_room (Nat.le_of_ble_eq_true rfl)) d_O_verify_21 ⟨by decide +kernel, by decide +kernel⟩) (fun r_41 hr_41 => ?_)
      obtain rfl : r_41 = 0 := hr_41
      refine lv_if_eq (tgt := 64) hx hb d_O_verify_24 (by decide) (fun _ => ?_) (fun h9 => absurd h9 (by decide +kernel))
      refine lv_iinc (v := 39) (lv' := [(2, .int 39), (0, .ref h0), (1, .int a1)]) hx hb d_O_verify_64 hl (k := 0) rfl (by decide +kernel) (by decide) rfl (fun ls hl => ?_)
      refine lv_goto (tgt := 12) hx hb d_O_verify_67 (by decide) ?_
      refine lv_iload_n hx hb d_O_verify_12 rfl (lv_at hl 0 rfl) ?_
      refine lv_bipush (v := 64) hx hb d_O_verify_13 (by decide +kernel) ?_
      refine lv_icmp_ge (tgt := 70) hx hb d_O_verify_15 (by decide) (fun h9 => absurd h9 (by decide +kernel)) (fun _ => ?_)
      refine lv_aload_n hx hb d_O_verify_18 rfl (lv_at hl 1 rfl) ?_
      refine lv_iload_n hx hb d_O_verify_19 rfl (lv_at hl 2 rfl) ?_
      refine lv_iload_n hx hb d_O_verify_20 rfl (lv_at hl 0 rfl) ?_
      have hPc := hP.sub (ws' := [(h0, .inr (7, [.int 0, .int 0, .int (vI σ.go), .ref hbu, .int (nI σ.buf.length), .int (nI σ.nd), .ref hgo, .ref hfi, .ref hma, .ref hln, .ref hau, .ref hsu, .ref hrow, .ref hmade, .int z_madeSize, .ref hbase, .int z_baseSize, .ref htx9, .int z_textSize, .int σ.stp, .ref hot, .int z_otherSize, .ref hpc, .int z_pieceSize, .int z_at, .int z_end, .int z_value])), (hgo, .inl (cZ, 8, .inl ((fg)))), (hfi, .inl (cI, 8, .inl ((ff)))), (hma, .inl (cI, 8, .inl ((fm))))]) [13, 1, 2, 3] rfl
      have hKc := hK.sub (tys' := [(cZ, .boolean), (cI, .int)]) [3, 1] rfl
      refine ps_i (va_runV (As := [.int a1, .int 39]) (rest := []) ⟨hx, hb, hml, hown, hw0⟩ (o_asked_N l dC dI h0 0 0 (vI σ.go) (.ref hbu) (nI σ.buf.length) (.ref hln) (.ref hau) (.ref hsu) (.ref hrow) (.ref hmade) z_madeSize (.ref hbase) z_baseSize (.ref htx9) z_textSize σ.stp (.ref hot) z_otherSize (.ref hpc) z_pieceSize z_at z_end z_value σ.nd hgo cZ (fg) hfi cI (ff) hma (fm) a1 39 (by first | assumption | decide | omega) (by first | assumption | decide | omega)) (cwV 2 hw0 (gd_V 291 292 293 161 294 rfl rfl rfl rfl rfl) rfl rfl rfl (by decide +kernel) ⟨by decide +kernel, by decide +kernel⟩) (prV_R hPc hKc hN (va_recv hKc hPc (ci := 7) (q0 := 0) rfl rfl)) rfl rfl hl.1 rfl (lv_room (Nat.le_of_ble_eq_true rfl)) d_O_verify_21 ⟨by decide +kernel, by decide +kernel⟩) (fun r_42 hr_42 => ?_)
      obtain rfl : r_42 = 0 := hr_42
      refine lv_if_eq (tgt := 64) hx hb d_O_verify_24 (by decide) (fun _ => ?_) (fun h9 => absurd h9 (by decide +kernel))
      refine lv_iinc (v := 40) (lv' := [(2, .int 40), (0, .ref h0), (1, .int a1)]) hx hb d_O_verify_64 hl (k := 0) rfl (by decide +kernel) (by decide) rfl (fun ls hl => ?_)
      refine lv_goto (tgt := 12) hx hb d_O_verify_67 (by decide) ?_
      refine lv_iload_n hx hb d_O_verify_12 rfl (lv_at hl 0 rfl) ?_
      refine lv_bipush (v := 64) hx hb d_O_verify_13 (by decide +kernel) ?_
      refine lv_icmp_ge (tgt := 70) hx hb d_O_verify_15 (by decide) (fun h9 => absurd h9 (by decide +kernel)) (fun _ => ?_)
      refine lv_aload_n hx hb d_O_verify_18 rfl (lv_at hl 1 rfl) ?_
      refine lv_iload_n hx hb d_O_verify_19 rfl (lv_at hl 2 rfl) ?_
      refine lv_iload_n hx hb d_O_verify_20 rfl (lv_at hl 0 rfl) ?_
      have hPc := hP.sub (ws' := [(h0, .inr (7, [.int 0, .int 0, .int (vI σ.go), .ref hbu, .int (nI σ.buf.length), .int (nI σ.nd), .ref hgo, .ref hfi, .ref hma, .ref hln, .ref hau, .ref hsu, .ref hrow, .ref hmade, .int z_madeSize, .ref hbase, .int z_baseSize, .ref htx9, .int z_textSize, .int σ.stp, .ref hot, .int z_otherSize, .ref hpc, .int z_pieceSize, .int z_at, .int z_end, .int z_value])), (hgo, .inl (cZ, 8, .inl ((fg)))), (hfi, .inl (cI, 8, .inl ((ff)))), (hma, .inl (cI, 8, .inl ((fm))))]) [13, 1, 2, 3] rfl
      have hKc := hK.sub (tys' := [(cZ, .boolean), (cI, .int)]) [3, 1] rfl
      refine ps_i (va_runV (As := [.int a1, .int 40]) (rest := []) ⟨hx, hb, hml, hown, hw0⟩ (o_asked_N l dC dI h0 0 0 (vI σ.go) (.ref hbu) (nI σ.buf.length) (.ref hln) (.ref hau) (.ref hsu) (.ref hrow) (.ref hmade) z_madeSize (.ref hbase) z_baseSize (.ref htx9) z_textSize σ.stp (.ref hot) z_otherSize (.ref hpc) z_pieceSize z_at z_end z_value σ.nd hgo cZ (fg) hfi cI (ff) hma (fm) a1 40 (by first | assumption | decide | omega) (by first | assumption | decide | omega)) (cwV 2 hw0 (gd_V 291 292 293 161 294 rfl rfl rfl rfl rfl) rfl rfl rfl (by decide +kernel) ⟨by decide +kernel, by decide +kernel⟩) (prV_R hPc hKc hN (va_recv hKc hPc (ci := 7) (q0 := 0) rfl rfl)) rfl rfl hl.1 rfl (lv_room (Nat.le_of_ble_eq_true rfl)) d_O_verify_21 ⟨by decide +kernel, by decide +kernel⟩) (fun r_43 hr_43 => ?_)
      obtain rfl : r_43 = 0 := hr_43
      refine lv_if_eq (tgt := 64) hx hb d_O_verify_24 (by decide) (fun _ => ?_) (fun h9 => absurd h9 (by decide +kernel))
      refine lv_iinc (v := 41) (lv' := [(2, .int 41), (0, .ref h0), (1, .int a1)]) hx hb d_O_verify_64 hl (k := 0) rfl (by decide +kernel) (by decide) rfl (fun ls hl => ?_)
      refine lv_goto (tgt := 12) hx hb d_O_verify_67 (by decide) ?_
      refine lv_iload_n hx hb d_O_verify_12 rfl (lv_at hl 0 rfl) ?_
      refine lv_bipush (v := 64) hx hb d_O_verify_13 (by decide +kernel) ?_
      refine lv_icmp_ge (tgt := 70) hx hb d_O_verify_15 (by decide) (fun h9 => absurd h9 (by decide +kernel)) (fun _ => ?_)
      refine lv_aload_n hx hb d_O_verify_18 rfl (lv_at hl 1 rfl) ?_
      refine lv_iload_n hx hb d_O_verify_19 rfl (lv_at hl 2 rfl) ?_
      refine lv_iload_n hx hb d_O_verify_20 rfl (lv_at hl 0 rfl) ?_
      have hPc := hP.sub (ws' := [(h0, .inr (7, [.int 0, .int 0, .int (vI σ.go), .ref hbu, .int (nI σ.buf.length), .int (nI σ.nd), .ref hgo, .ref hfi, .ref hma, .ref hln, .ref hau, .ref hsu, .ref hrow, .ref hmade, .int z_madeSize, .ref hbase, .int z_baseSize, .ref htx9, .int z_textSize, .int σ.stp, .ref hot, .int z_otherSize, .ref hpc, .int z_pieceSize, .int z_at, .int z_end, .int z_value])), (hgo, .inl (cZ, 8, .inl ((fg)))), (hfi, .inl (cI, 8, .inl ((ff)))), (hma, .inl (cI, 8, .inl ((fm))))]) [13, 1, 2, 3] rfl
      have hKc := hK.sub (tys' := [(cZ, .boolean), (cI, .int)]) [3, 1] rfl
      refine ps_i (va_runV (As := [.int a1, .int 41]) (rest := []) ⟨hx, hb, hml, hown, hw0⟩ (o_asked_N l dC dI h0 0 0 (vI σ.go) (.ref hbu) (nI σ.buf.length) (.ref hln) (.ref hau) (.ref hsu) (.ref hrow) (.ref hmade) z_madeSize (.ref hbase) z_baseSize (.ref htx9) z_textSize σ.stp (.ref hot) z_otherSize (.ref hpc) z_pieceSize z_at z_end z_value σ.nd hgo cZ (fg) hfi cI (ff) hma (fm) a1 41 (by first | assumption | decide | omega) (by first | assumption | decide | omega)) (cwV 2 hw0 (gd_V 291 292 293 161 294 rfl rfl rfl rfl rfl) rfl rfl rfl (by decide +kernel) ⟨by decide +kernel, by decide +kernel⟩) (prV_R hPc hKc hN (va_recv hKc hPc (ci := 7) (q0 := 0) rfl rfl)) rfl rfl hl.1 rfl (lv_room (Nat.le_of_ble_eq_true rfl)) d_O_verify_21 ⟨by decide +kernel, by decide +kernel⟩) (fun r_44 hr_44 => ?_)
      obtain rfl : r_44 = 0 := hr_44
      refine lv_if_eq (tgt := 64) hx hb d_O_verify_24 (by decide) (fun _ => ?_) (fun h9 => absurd h9 (by decide +kernel))
      refine lv_iinc (v := 42) (lv' := [(2, .int 42), (0, .ref h0), (1, .int a1)]) hx hb d_O_verify_64 hl (k := 0) rfl (by decide +kernel) (by decide) rfl (fun ls hl => ?_)
      refine lv_goto (tgt := 12) hx hb d_O_verify_67 (by decide) ?_
      refine lv_iload_n hx hb d_O_verify_12 rfl (lv_at hl 0 rfl) ?_
      refine lv_bipush (v := 64) hx hb d_O_verify_13 (by decide +kernel) ?_
      refine lv_icmp_ge (tgt := 70) hx hb d_O_verify_15 (by decide) (fun h9 => absurd h9 (by decide +kernel)) (fun _ => ?_)
      refine lv_aload_n hx hb d_O_verify_18 rfl (lv_at hl 1 rfl) ?_
      refine lv_iload_n hx hb d_O_verify_19 rfl (lv_at hl 2 rfl) ?_
      refine lv_iload_n hx hb d_O_verify_20 rfl (lv_at hl 0 rfl) ?_
      have hPc := hP.sub (ws' := [(h0, .inr (7, [.int 0, .int 0, .int (vI σ.go), .ref hbu, .int (nI σ.buf.length), .int (nI σ.nd), .ref hgo, .ref hfi, .ref hma, .ref hln, .ref hau, .ref hsu, .ref hrow, .ref hmade, .int z_madeSize, .ref hbase, .int z_baseSize, .ref htx9, .int z_textSize, .int σ.stp, .ref hot, .int z_otherSize, .ref hpc, .int z_pieceSize, .int z_at, .int z_end, .int z_value])), (hgo, .inl (cZ, 8, .inl ((fg)))), (hfi, .inl (cI, 8, .inl ((ff)))), (hma, .inl (cI, 8, .inl ((fm))))]) [13, 1, 2, 3] rfl
      have hKc := hK.sub (tys' := [(cZ, .boolean), (cI, .int)]) [3, 1] rfl
      refine ps_i (va_runV (As := [.int a1, .int 42]) (rest := []) ⟨hx, hb, hml, hown, hw0⟩ (o_asked_N l dC dI h0 0 0 (vI σ.go) (.ref hbu) (nI σ.buf.length) (.ref hln) (.ref hau) (.ref hsu) (.ref hrow) (.ref hmade) z_madeSize (.ref hbase) z_baseSize (.ref htx9) z_textSize σ.stp (.ref hot) z_otherSize (.ref hpc) z_pieceSize z_at z_end z_value σ.nd hgo cZ (fg) hfi cI (ff) hma (fm) a1 42 (by first | assumption | decide | omega) (by first | assumption | decide | omega)) (cwV 2 hw0 (gd_V 291 292 293 161 294 rfl rfl rfl rfl rfl) rfl rfl rfl (by decide +kernel) ⟨by decide +kernel, by decide +kernel⟩) (prV_R hPc hKc hN (va_recv hKc hPc (ci := 7) (q0 := 0) rfl rfl)) rfl rfl hl.1 rfl (lv_room (Nat.le_of_ble_eq_true rfl)) d_O_verify_21 ⟨by decide +kernel, by decide +kernel⟩) (fun r_45 hr_45 => ?_)
      obtain rfl : r_45 = 0 := hr_45
      refine lv_if_eq (tgt := 64) hx hb d_O_verify_24 (by decide) (fun _ => ?_) (fun h9 => absurd h9 (by decide +kernel))
      refine lv_iinc (v := 43) (lv' := [(2, .int 43), (0, .ref h0), (1, .int a1)]) hx hb d_O_verify_64 hl (k := 0) rfl (by decide +kernel) (by decide) rfl (fun ls hl => ?_)
      refine lv_goto (tgt := 12) hx hb d_O_verify_67 (by decide) ?_
      refine lv_iload_n hx hb d_O_verify_12 rfl (lv_at hl 0 rfl) ?_
      refine lv_bipush (v := 64) hx hb d_O_verify_13 (by decide +kernel) ?_
      refine lv_icmp_ge (tgt := 70) hx hb d_O_verify_15 (by decide) (fun h9 => absurd h9 (by decide +kernel)) (fun _ => ?_)
      refine lv_aload_n hx hb d_O_verify_18 rfl (lv_at hl 1 rfl) ?_
      refine lv_iload_n hx hb d_O_verify_19 rfl (lv_at hl 2 rfl) ?_
      refine lv_iload_n hx hb d_O_verify_20 rfl (lv_at hl 0 rfl) ?_
      have hPc := hP.sub (ws' := [(h0, .inr (7, [.int 0, .int 0, .int (vI σ.go), .ref hbu, .int (nI σ.buf.length), .int (nI σ.nd), .ref hgo, .ref hfi, .ref hma, .ref hln, .ref hau, .ref hsu, .ref hrow, .ref hmade, .int z_madeSize, .ref hbase, .int z_baseSize, .ref htx9, .int z_textSize, .int σ.stp, .ref hot, .int z_otherSize, .ref hpc, .int z_pieceSize, .int z_at, .int z_end, .int z_value])), (hgo, .inl (cZ, 8, .inl ((fg)))), (hfi, .inl (cI, 8, .inl ((ff)))), (hma, .inl (cI, 8, .inl ((fm))))]) [13, 1, 2, 3] rfl
      have hKc := hK.sub (tys' := [(cZ, .boolean), (cI, .int)]) [3, 1] rfl
      refine ps_i (va_runV (As := [.int a1, .int 43]) (rest := []) ⟨hx, hb, hml, hown, hw0⟩ (o_asked_N l dC dI h0 0 0 (vI σ.go) (.ref hbu) (nI σ.buf.length) (.ref hln) (.ref hau) (.ref hsu) (.ref hrow) (.ref hmade) z_madeSize (.ref hbase) z_baseSize (.ref htx9) z_textSize σ.stp (.ref hot) z_otherSize (.ref hpc) z_pieceSize z_at z_end z_value σ.nd hgo cZ (fg) hfi cI (ff) hma (fm) a1 43 (by first | assumption | decide | omega) (by first | assumption | decide | omega)) (cwV 2 hw0 (gd_V 291 292 293 161 294 rfl rfl rfl rfl rfl) rfl rfl rfl (by decide +kernel) ⟨by decide +kernel, by decide +kernel⟩) (prV_R hPc hKc hN (va_recv hKc hPc (ci := 7) (q0 := 0) rfl rfl)) rfl rfl hl.1 rfl (lv_room (Nat.le_of_ble_eq_true rfl)) d_O_verify_21 ⟨by decide +kernel, by decide +kernel⟩) (fun r_46 hr_46 => ?_)
      obtain rfl : r_46 = 0 := hr_46
      refine lv_if_eq (tgt := 64) hx hb d_O_verify_24 (by decide) (fun _ => ?_) (fun h9 => absurd h9 (by decide +kernel))
      refine lv_iinc (v := 44) (lv' := [(2, .int 44), (0, .ref h0), (1, .int a1)]) hx hb d_O_verify_64 hl (k := 0) rfl (by decide +kernel) (by decide) rfl (fun ls hl => ?_)
      refine lv_goto (tgt := 12) hx hb d_O_verify_67 (by decide) ?_
      refine lv_iload_n hx hb d_O_verify_12 rfl (lv_at hl 0 rfl) ?_
      refine lv_bipush (v := 64) hx hb d_O_verify_13 (by decide +kernel) ?_
      refine lv_icmp_ge (tgt := 70) hx hb d_O_verify_15 (by decide) (fun h9 => absurd h9 (by decide +kernel)) (fun _ => ?_)
      refine lv_aload_n hx hb d_O_verify_18 rfl (lv_at hl 1 rfl) ?_
      refine lv_iload_n hx hb d_O_verify_19 rfl (lv_at hl 2 rfl) ?_
      refine lv_iload_n hx hb d_O_verify_20 rfl (lv_at hl 0 rfl) ?_
      have hPc := hP.sub (ws' := [(h0, .inr (7, [.int 0, .int 0, .int (vI σ.go), .ref hbu, .int (nI σ.buf.length), .int (nI σ.nd), .ref hgo, .ref hfi, .ref hma, .ref hln, .ref hau, .ref hsu, .ref hrow, .ref hmade, .int z_madeSize, .ref hbase, .int z_baseSize, .ref htx9, .int z_textSize, .int σ.stp, .ref hot, .int z_otherSize, .ref hpc, .int z_pieceSize, .int z_at, .int z_end, .int z_value])), (hgo, .inl (cZ, 8, .inl ((fg)))), (hfi, .inl (cI, 8, .inl ((ff)))), (hma, .inl (cI, 8, .inl ((fm))))]) [13, 1, 2, 3] rfl
      have hKc := hK.sub (tys' := [(cZ, .boolean), (cI, .int)]) [3, 1] rfl
      refine ps_i (va_runV (As := [.int a1, .int 44]) (rest := []) ⟨hx, hb, hml, hown, hw0⟩ (o_asked_N l dC dI h0 0 0 (vI σ.go) (.ref hbu) (nI σ.buf.length) (.ref hln) (.ref hau) (.ref hsu) (.ref hrow) (.ref hmade) z_madeSize (.ref hbase) z_baseSize (.ref htx9) z_textSize σ.stp (.ref hot) z_otherSize (.ref hpc) z_pieceSize z_at z_end z_value σ.nd hgo cZ (fg) hfi cI (ff) hma (fm) a1 44 (by first | assumption | decide | omega) (by first | assumption | decide | omega)) (cwV 2 hw0 (gd_V 291 292 293 161 294 rfl rfl rfl rfl rfl) rfl rfl rfl (by decide +kernel) ⟨by decide +kernel, by decide +kernel⟩) (prV_R hPc hKc hN (va_recv hKc hPc (ci := 7) (q0 := 0) rfl rfl)) rfl rfl hl.1 rfl (lv_room (Nat.le_of_ble_eq_true rfl)) d_O_verify_21 ⟨by decide +kernel, by decide +kernel⟩) (fun r_47 hr_47 => ?_)
      obtain rfl : r_47 = 0 := hr_47
      refine lv_if_eq (tgt := 64) hx hb d_O_verify_24 (by decide) (fun _ => ?_) (fun h9 => absurd h9 (by decide +kernel))
      refine lv_iinc (v := 45) (lv' := [(2, .int 45), (0, .ref h0), (1, .int a1)]) hx hb d_O_verify_64 hl (k := 0) rfl (by decide +kernel) (by decide) rfl (fun ls hl => ?_)
      refine lv_goto (tgt := 12) hx hb d_O_verify_67 (by decide) ?_
      refine lv_iload_n hx hb d_O_verify_12 rfl (lv_at hl 0 rfl) ?_
      refine lv_bipush (v := 64) hx hb d_O_verify_13 (by decide +kernel) ?_
      refine lv_icmp_ge (tgt := 70) hx hb d_O_verify_15 (by decide) (fun h9 => absurd h9 (by decide +kernel)) (fun _ => ?_)
      refine lv_aload_n hx hb d_O_verify_18 rfl (lv_at hl 1 rfl) ?_
      refine lv_iload_n hx hb d_O_verify_19 rfl (lv_at hl 2 rfl) ?_
      refine lv_iload_n hx hb d_O_verify_20 rfl (lv_at hl 0 rfl) ?_
      have hPc := hP.sub (ws' := [(h0, .inr (7, [.int 0, .int 0, .int (vI σ.go), .ref hbu, .int (nI σ.buf.length), .int (nI σ.nd), .ref hgo, .ref hfi, .ref hma, .ref hln, .ref hau, .ref hsu, .ref hrow, .ref hmade, .int z_madeSize, .ref hbase, .int z_baseSize, .ref htx9, .int z_textSize, .int σ.stp, .ref hot, .int z_otherSize, .ref hpc, .int z_pieceSize, .int z_at, .int z_end, .int z_value])), (hgo, .inl (cZ, 8, .inl ((fg)))), (hfi, .inl (cI, 8, .inl ((ff)))), (hma, .inl (cI, 8, .inl ((fm))))]) [13, 1, 2, 3] rfl
      have hKc := hK.sub (tys' := [(cZ, .boolean), (cI, .int)]) [3, 1] rfl
      refine ps_i (va_runV (As := [.int a1, .int 45]) (rest := []) ⟨hx, hb, hml, hown, hw0⟩ (o_asked_N l dC dI h0 0 0 (vI σ.go) (.ref hbu) (nI σ.buf.length) (.ref hln) (.ref hau) (.ref hsu) (.ref hrow) (.ref hmade) z_madeSize (.ref hbase) z_baseSize (.ref htx9) z_textSize σ.stp (.ref hot) z_otherSize (.ref hpc) z_pieceSize z_at z_end z_value σ.nd hgo cZ (fg) hfi cI (ff) hma (fm) a1 45 (by first | assumption | decide | omega) (by first | assumption | decide | omega)) (cwV 2 hw0 (gd_V 291 292 293 161 294 rfl rfl rfl rfl rfl) rfl rfl rfl (by decide +kernel) ⟨by decide +kernel, by decide +kernel⟩) (prV_R hPc hKc hN (va_recv hKc hPc (ci := 7) (q0 := 0) rfl rfl)) rfl rfl hl.1 rfl (lv_room (Nat.le_of_ble_eq_true rfl)) d_O_verify_21 ⟨by decide +kernel, by decide +kernel⟩) (fun r_48 hr_48 => ?_)
      obtain rfl : r_48 = 0 := hr_48
      refine lv_if_eq (tgt := 64) hx hb d_O_verify_24 (by decide) (fun _ => ?_) (fun h9 => absurd h9 (by decide +kernel))
      refine lv_iinc (v := 46) (lv' := [(2, .int 46), (0, .ref h0), (1, .int a1)]) hx hb d_O_verify_64 hl (k := 0) rfl (by decide +kernel) (by decide) rfl (fun ls hl => ?_)
      refine lv_goto (tgt := 12) hx hb d_O_verify_67 (by decide) ?_
      refine lv_iload_n hx hb d_O_verify_12 rfl (lv_at hl 0 rfl) ?_
      refine lv_bipush (v := 64) hx hb d_O_verify_13 (by decide +kernel) ?_
      refine lv_icmp_ge (tgt := 70) hx hb d_O_verify_15 (by decide) (fun h9 => absurd h9 (by decide +kernel)) (fun _ => ?_)
      refine lv_aload_n hx hb d_O_verify_18 rfl (lv_at hl 1 rfl) ?_
      refine lv_iload_n hx hb d_O_verify_19 rfl (lv_at hl 2 rfl) ?_
      refine lv_iload_n hx hb d_O_verify_20 rfl (lv_at hl 0 rfl) ?_
      have hPc := hP.sub (ws' := [(h0, .inr (7, [.int 0, .int 0, .int (vI σ.go), .ref hbu, .int (nI σ.buf.length), .int (nI σ.nd), .ref hgo, .ref hfi, .ref hma, .ref hln, .ref hau, .ref hsu, .ref hrow, .ref hmade, .int z_madeSize, .ref hbase, .int z_baseSize, .ref htx9, .int z_textSize, .int σ.stp, .ref hot, .int z_otherSize, .ref hpc, .int z_pieceSize, .int z_at, .int z_end, .int z_value])), (hgo, .inl (cZ, 8, .inl ((fg)))), (hfi, .inl (cI, 8, .inl ((ff)))), (hma, .inl (cI, 8, .inl ((fm))))]) [13, 1, 2, 3] rfl
      have hKc := hK.sub (tys' := [(cZ, .boolean), (cI, .int)]) [3, 1] rfl
      refine ps_i (va_runV (As := [.int a1, .int 46]) (rest := []) ⟨hx, hb, hml, hown, hw0⟩ (o_asked_N l dC dI h0 0 0 (vI σ.go) (.ref hbu) (nI σ.buf.length) (.ref hln) (.ref hau) (.ref hsu) (.ref hrow) (.ref hmade) z_madeSize (.ref hbase) z_baseSize (.ref htx9) z_textSize σ.stp (.ref hot) z_otherSize (.ref hpc) z_pieceSize z_at z_end z_value σ.nd hgo cZ (fg) hfi cI (ff) hma (fm) a1 46 (by first | assumption | decide | omega) (by first | assumption | decide | omega)) (cwV 2 hw0 (gd_V 291 292 293 161 294 rfl rfl rfl rfl rfl) rfl rfl rfl (by decide +kernel) ⟨by decide +kernel, by decide +kernel⟩) (prV_R hPc hKc hN (va_recv hKc hPc (ci := 7) (q0 := 0) rfl rfl)) rfl rfl hl.1 rfl (lv_room (Nat.le_of_ble_eq_true rfl)) d_O_verify_21 ⟨by decide +kernel, by decide +kernel⟩) (fun r_49 hr_49 => ?_)
      obtain rfl : r_49 = 0 := hr_49
      refine lv_if_eq (tgt := 64) hx hb d_O_verify_24 (by decide) (fun _ => ?_) (fun h9 => absurd h9 (by decide +kernel))
      refine lv_iinc (v := 47) (lv' := [(2, .int 47), (0, .ref h0), (1, .int a1)]) hx hb d_O_verify_64 hl (k := 0) rfl (by decide +kernel) (by decide) rfl (fun ls hl => ?_)
      refine lv_goto (tgt := 12) hx hb d_O_verify_67 (by decide) ?_
      refine lv_iload_n hx hb d_O_verify_12 rfl (lv_at hl 0 rfl) ?_
      refine lv_bipush (v := 64) hx hb d_O_verify_13 (by decide +kernel) ?_
      refine lv_icmp_ge (tgt := 70) hx hb d_O_verify_15 (by decide) (fun h9 => absurd h9 (by decide +kernel)) (fun _ => ?_)
      refine lv_aload_n hx hb d_O_verify_18 rfl (lv_at hl 1 rfl) ?_
      refine lv_iload_n hx hb d_O_verify_19 rfl (lv_at hl 2 rfl) ?_
      refine lv_iload_n hx hb d_O_verify_20 rfl (lv_at hl 0 rfl) ?_
      have hPc := hP.sub (ws' := [(h0, .inr (7, [.int 0, .int 0, .int (vI σ.go), .ref hbu, .int (nI σ.buf.length), .int (nI σ.nd), .ref hgo, .ref hfi, .ref hma, .ref hln, .ref hau, .ref hsu, .ref hrow, .ref hmade, .int z_madeSize, .ref hbase, .int z_baseSize, .ref htx9, .int z_textSize, .int σ.stp, .ref hot, .int z_otherSize, .ref hpc, .int z_pieceSize, .int z_at, .int z_end, .int z_value])), (hgo, .inl (cZ, 8, .inl ((fg)))), (hfi, .inl (cI, 8, .inl ((ff)))), (hma, .inl (cI, 8, .inl ((fm))))]) [13, 1, 2, 3] rfl
      have hKc := hK.sub (tys' := [(cZ, .boolean), (cI, .int)]) [3, 1] rfl
      refine ps_i (va_runV (As := [.int a1, .int 47]) (rest := []) ⟨hx, hb, hml, hown, hw0⟩ (o_asked_N l dC dI h0 0 0 (vI σ.go) (.ref hbu) (nI σ.buf.length) (.ref hln) (.ref hau) (.ref hsu) (.ref hrow) (.ref hmade) z_madeSize (.ref hbase) z_baseSize (.ref htx9) z_textSize σ.stp (.ref hot) z_otherSize (.ref hpc) z_pieceSize z_at z_end z_value σ.nd hgo cZ (fg) hfi cI (ff) hma (fm) a1 47 (by first | assumption | decide | omega) (by first | assumption | decide | omega)) (cwV 2 hw0 (gd_V 291 292 293 161 294 rfl rfl rfl rfl rfl) rfl rfl rfl (by decide +kernel) ⟨by decide +kernel, by decide +kernel⟩) (prV_R hPc hKc hN (va_recv hKc hPc (ci := 7) (q0 := 0) rfl rfl)) rfl rfl hl.1 rfl (lv_room (Nat.le_of_ble_eq_true rfl)) d_O_verify_21 ⟨by decide +kernel, by decide +kernel⟩) (fun r_50 hr_50 => ?_)
      obtain rfl : r_50 = 0 := hr_50
      refine lv_if_eq (tgt := 64) hx hb d_O_verify_24 (by decide) (fun _ => ?_) (fun h9 => absurd h9 (by decide +kernel))
      refine lv_iinc (v := 48) (lv' := [(2, .int 48), (0, .ref h0), (1, .int a1)]) hx hb d_O_verify_64 hl (k := 0) rfl (by decide +kernel) (by decide) rfl (fun ls hl => ?_)
      refine lv_goto (tgt := 12) hx hb d_O_verify_67 (by decide) ?_
      refine lv_iload_n hx hb d_O_verify_12 rfl (lv_at hl 0 rfl) ?_
      refine lv_bipush (v := 64) hx hb d_O_verify_13 (by decide +kernel) ?_
      refine lv_icmp_ge (tgt := 70) hx hb d_O_verify_15 (by decide) (fun h9 => absurd h9 (by decide +kernel)) (fun _ => ?_)
      refine lv_aload_n hx hb d_O_verify_18 rfl (lv_at hl 1 rfl) ?_
      refine lv_iload_n hx hb d_O_verify_19 rfl (lv_at hl 2 rfl) ?_
      refine lv_iload_n hx hb d_O_verify_20 rfl (lv_at hl 0 rfl) ?_
      have hPc := hP.sub (ws' := [(h0, .inr (7, [.int 0, .int 0, .int (vI σ.go), .ref hbu, .int (nI σ.buf.length), .int (nI σ.nd), .ref hgo, .ref hfi, .ref hma, .ref hln, .ref hau, .ref hsu, .ref hrow, .ref hmade, .int z_madeSize, .ref hbase, .int z_baseSize, .ref htx9, .int z_textSize, .int σ.stp, .ref hot, .int z_otherSize, .ref hpc, .int z_pieceSize, .int z_at, .int z_end, .int z_value])), (hgo, .inl (cZ, 8, .inl ((fg)))), (hfi, .inl (cI, 8, .inl ((ff)))), (hma, .inl (cI, 8, .inl ((fm))))]) [13, 1, 2, 3] rfl
      have hKc := hK.sub (tys' := [(cZ, .boolean), (cI, .int)]) [3, 1] rfl
      refine ps_i (va_runV (As := [.int a1, .int 48]) (rest := []) ⟨hx, hb, hml, hown, hw0⟩ (o_asked_N l dC dI h0 0 0 (vI σ.go) (.ref hbu) (nI σ.buf.length) (.ref hln) (.ref hau) (.ref hsu) (.ref hrow) (.ref hmade) z_madeSize (.ref hbase) z_baseSize (.ref htx9) z_textSize σ.stp (.ref hot) z_otherSize (.ref hpc) z_pieceSize z_at z_end z_value σ.nd hgo cZ (fg) hfi cI (ff) hma (fm) a1 48 (by first | assumption | decide | omega) (by first | assumption | decide | omega)) (cwV 2 hw0 (gd_V 291 292 293 161 294 rfl rfl rfl rfl rfl) rfl rfl rfl (by decide +kernel) ⟨by decide +kernel, by decide +kernel⟩) (prV_R hPc hKc hN (va_recv hKc hPc (ci := 7) (q0 := 0) rfl rfl)) rfl rfl hl.1 rfl (lv_room (Nat.le_of_ble_eq_true rfl)) d_O_verify_21 ⟨by decide +kernel, by decide +kernel⟩) (fun r_51 hr_51 => ?_)
      obtain rfl : r_51 = 0 := hr_51
      refine lv_if_eq (tgt := 64) hx hb d_O_verify_24 (by decide) (fun _ => ?_) (fun h9 => absurd h9 (by decide +kernel))
      refine lv_iinc (v := 49) (lv' := [(2, .int 49), (0, .ref h0), (1, .int a1)]) hx hb d_O_verify_64 hl (k := 0) rfl (by decide +kernel) (by decide) rfl (fun ls hl => ?_)
      refine lv_goto (tgt := 12) hx hb d_O_verify_67 (by decide) ?_
      refine lv_iload_n hx hb d_O_verify_12 rfl (lv_at hl 0 rfl) ?_
      refine lv_bipush (v := 64) hx hb d_O_verify_13 (by decide +kernel) ?_
      refine lv_icmp_ge (tgt := 70) hx hb d_O_verify_15 (by decide) (fun h9 => absurd h9 (by decide +kernel)) (fun _ => ?_)
      refine lv_aload_n hx hb d_O_verify_18 rfl (lv_at hl 1 rfl) ?_
      refine lv_iload_n hx hb d_O_verify_19 rfl (lv_at hl 2 rfl) ?_
      refine lv_iload_n hx hb d_O_verify_20 rfl (lv_at hl 0 rfl) ?_
      have hPc := hP.sub (ws' := [(h0, .inr (7, [.int 0, .int 0, .int (vI σ.go), .ref hbu, .int (nI σ.buf.length), .int (nI σ.nd), .ref hgo, .ref hfi, .ref hma, .ref hln, .ref hau, .ref hsu, .ref hrow, .ref hmade, .int z_madeSize, .ref hbase, .int z_baseSize, .ref htx9, .int z_textSize, .int σ.stp, .ref hot, .int z_otherSize, .ref hpc, .int z_pieceSize, .int z_at, .int z_end, .int z_value])), (hgo, .inl (cZ, 8, .inl ((fg)))), (hfi, .inl (cI, 8, .inl ((ff)))), (hma, .inl (cI, 8, .inl ((fm))))]) [13, 1, 2, 3] rfl
      have hKc := hK.sub (tys' := [(cZ, .boolean), (cI, .int)]) [3, 1] rfl
      refine ps_i (va_runV (As := [.int a1, .int 49]) (rest := []) ⟨hx, hb, hml, hown, hw0⟩ (o_asked_N l dC dI h0 0 0 (vI σ.go) (.ref hbu) (nI σ.buf.length) (.ref hln) (.ref hau) (.ref hsu) (.ref hrow) (.ref hmade) z_madeSize (.ref hbase) z_baseSize (.ref htx9) z_textSize σ.stp (.ref hot) z_otherSize (.ref hpc) z_pieceSize z_at z_end z_value σ.nd hgo cZ (fg) hfi cI (ff) hma (fm) a1 49 (by first | assumption | decide | omega) (by first | assumption | decide | omega)) (cwV 2 hw0 (gd_V 291 292 293 161 294 rfl rfl rfl rfl rfl) rfl rfl rfl (by decide +kernel) ⟨by decide +kernel, by decide +kernel⟩) (prV_R hPc hKc hN (va_recv hKc hPc (ci := 7) (q0 := 0) rfl rfl)) rfl rfl hl.1 rfl (lv_room (Nat.le_of_ble_eq_true rfl)) d_O_verify_21 ⟨by decide +kernel, by decide +kernel⟩) (fun r_52 hr_52 => ?_)
      obtain rfl : r_52 = 0 := hr_52
      refine lv_if_eq (tgt := 64) hx hb d_O_verify_24 (by decide) (fun _ => ?_) (fun h9 => absurd h9 (by decide +kernel))
      refine lv_iinc (v := 50) (lv' := [(2, .int 50), (0, .ref h0), (1, .int a1)]) hx hb d_O_verify_64 hl (k := 0) rfl (by decide +kernel) (by decide) rfl (fun ls hl => ?_)
      refine lv_goto (tgt := 12) hx hb d_O_verify_67 (by decide) ?_
      refine lv_iload_n hx hb d_O_verify_12 rfl (lv_at hl 0 rfl) ?_
      refine lv_bipush (v := 64) hx hb d_O_verify_13 (by decide +kernel) ?_
      refine lv_icmp_ge (tgt := 70) hx hb d_O_verify_15 (by decide) (fun h9 => absurd h9 (by decide +kernel)) (fun _ => ?_)
      refine lv_aload_n hx hb d_O_verify_18 rfl (lv_at hl 1 rfl) ?_
      refine lv_iload_n hx hb d_O_verify_19 rfl (lv_at hl 2 rfl) ?_
      refine lv_iload_n hx hb d_O_verify_20 rfl (lv_at hl 0 rfl) ?_
      have hPc := hP.sub (ws' := [(h0, .inr (7, [.int 0, .int 0, .int (vI σ.go), .ref hbu, .int (nI σ.buf.length), .int (nI σ.nd), .ref hgo, .ref hfi, .ref hma, .ref hln, .ref hau, .ref hsu, .ref hrow, .ref hmade, .int z_madeSize, .ref hbase, .int z_baseSize, .ref htx9, .int z_textSize, .int σ.stp, .ref hot, .int z_otherSize, .ref hpc, .int z_pieceSize, .int z_at, .int z_end, .int z_value])), (hgo, .inl (cZ, 8, .inl ((fg)))), (hfi, .inl (cI, 8, .inl ((ff)))), (hma, .inl (cI, 8, .inl ((fm))))]) [13, 1, 2, 3] rfl
      have hKc := hK.sub (tys' := [(cZ, .boolean), (cI, .int)]) [3, 1] rfl
      refine ps_i (va_runV (As := [.int a1, .int 50]) (rest := []) ⟨hx, hb, hml, hown, hw0⟩ (o_asked_N l dC dI h0 0 0 (vI σ.go) (.ref hbu) (nI σ.buf.length) (.ref hln) (.ref hau) (.ref hsu) (.ref hrow) (.ref hmade) z_madeSize (.ref hbase) z_baseSize (.ref htx9) z_textSize σ.stp (.ref hot) z_otherSize (.ref hpc) z_pieceSize z_at z_end z_value σ.nd hgo cZ (fg) hfi cI (ff) hma (fm) a1 50 (by first | assumption | decide | omega) (by first | assumption | decide | omega)) (cwV 2 hw0 (gd_V 291 292 293 161 294 rfl rfl rfl rfl rfl) rfl rfl rfl (by decide +kernel) ⟨by decide +kernel, by decide +kernel⟩) (prV_R hPc hKc hN (va_recv hKc hPc (ci := 7) (q0 := 0) rfl rfl)) rfl rfl hl.1 rfl (lv_room (Nat.le_of_ble_eq_true rfl)) d_O_verify_21 ⟨by decide +kernel, by decide +kernel⟩) (fun r_53 hr_53 => ?_)
      obtain rfl : r_53 = 0 := hr_53
      refine lv_if_eq (tgt := 64) hx hb d_O_verify_24 (by decide) (fun _ => ?_) (fun h9 => absurd h9 (by decide +kernel))
      refine lv_iinc (v := 51) (lv' := [(2, .int 51), (0, .ref h0), (1, .int a1)]) hx hb d_O_verify_64 hl (k := 0) rfl (by decide +kernel) (by decide) rfl (fun ls hl => ?_)
      refine lv_goto (tgt := 12) hx hb d_O_verify_67 (by decide) ?_
      refine lv_iload_n hx hb d_O_verify_12 rfl (lv_at hl 0 rfl) ?_
      refine lv_bipush (v := 64) hx hb d_O_verify_13 (by decide +kernel) ?_
      refine lv_icmp_ge (tgt := 70) hx hb d_O_verify_15 (by decide) (fun h9 => absurd h9 (by decide +kernel)) (fun _ => ?_)
      refine lv_aload_n hx hb d_O_verify_18 rfl (lv_at hl 1 rfl) ?_
      refine lv_iload_n hx hb d_O_verify_19 rfl (lv_at hl 2 rfl) ?_
      refine lv_iload_n hx hb d_O_verify_20 rfl (lv_at hl 0 rfl) ?_
      have hPc := hP.sub (ws' := [(h0, .inr (7, [.int 0, .int 0, .int (vI σ.go), .ref hbu, .int (nI σ.buf.length), .int (nI σ.nd), .ref hgo, .ref hfi, .ref hma, .ref hln, .ref hau, .ref hsu, .ref hrow, .ref hmade, .int z_madeSize, .ref hbase, .int z_baseSize, .ref htx9, .int z_textSize, .int σ.stp, .ref hot, .int z_otherSize, .ref hpc, .int z_pieceSize, .int z_at, .int z_end, .int z_value])), (hgo, .inl (cZ, 8, .inl ((fg)))), (hfi, .inl (cI, 8, .inl ((ff)))), (hma, .inl (cI, 8, .inl ((fm))))]) [13, 1, 2, 3] rfl
      have hKc := hK.sub (tys' := [(cZ, .boolean), (cI, .int)]) [3, 1] rfl
      refine ps_i (va_runV (As := [.int a1, .int 51]) (rest := []) ⟨hx, hb, hml, hown, hw0⟩ (o_asked_N l dC dI h0 0 0 (vI σ.go) (.ref hbu) (nI σ.buf.length) (.ref hln) (.ref hau) (.ref hsu) (.ref hrow) (.ref hmade) z_madeSize (.ref hbase) z_baseSize (.ref htx9) z_textSize σ.stp (.ref hot) z_otherSize (.ref hpc) z_pieceSize z_at z_end z_value σ.nd hgo cZ (fg) hfi cI (ff) hma (fm) a1 51 (by first | assumption | decide | omega) (by first | assumption | decide | omega)) (cwV 2 hw0 (gd_V 291 292 293 161 294 rfl rfl rfl rfl rfl) rfl rfl rfl (by decide +kernel) ⟨by decide +kernel, by decide +kernel⟩) (prV_R hPc hKc hN (va_recv hKc hPc (ci := 7) (q0 := 0) rfl rfl)) rfl rfl hl.1 rfl (lv_room (Nat.le_of_ble_eq_true rfl)) d_O_verify_21 ⟨by decide +kernel, by decide +kernel⟩) (fun r_54 hr_54 => ?_)
      obtain rfl : r_54 = 0 := hr_54
      refine lv_if_eq (tgt := 64) hx hb d_O_verify_24 (by decide) (fun _ => ?_) (fun h9 => absurd h9 (by decide +kernel))
      refine lv_iinc (v := 52) (lv' := [(2, .int 52), (0, .ref h0), (1, .int a1)]) hx hb d_O_verify_64 hl (k := 0) rfl (by decide +kernel) (by decide) rfl (fun ls hl => ?_)
      refine lv_goto (tgt := 12) hx hb d_O_verify_67 (by decide) ?_
      refine lv_iload_n hx hb d_O_verify_12 rfl (lv_at hl 0 rfl) ?_
      refine lv_bipush (v := 64) hx hb d_O_verify_13 (by decide +kernel) ?_
      refine lv_icmp_ge (tgt := 70) hx hb d_O_verify_15 (by decide) (fun h9 => absurd h9 (by decide +kernel)) (fun _ => ?_)
      refine lv_aload_n hx hb d_O_verify_18 rfl (lv_at hl 1 rfl) ?_
      refine lv_iload_n hx hb d_O_verify_19 rfl (lv_at hl 2 rfl) ?_
      refine lv_iload_n hx hb d_O_verify_20 rfl (lv_at hl 0 rfl) ?_
      have hPc := hP.sub (ws' := [(h0, .inr (7, [.int 0, .int 0, .int (vI σ.go), .ref hbu, .int (nI σ.buf.length), .int (nI σ.nd), .ref hgo, .ref hfi, .ref hma, .ref hln, .ref hau, .ref hsu, .ref hrow, .ref hmade, .int z_madeSize, .ref hbase, .int z_baseSize, .ref htx9, .int z_textSize, .int σ.stp, .ref hot, .int z_otherSize, .ref hpc, .int z_pieceSize, .int z_at, .int z_end, .int z_value])), (hgo, .inl (cZ, 8, .inl ((fg)))), (hfi, .inl (cI, 8, .inl ((ff)))), (hma, .inl (cI, 8, .inl ((fm))))]) [13, 1, 2, 3] rfl
      have hKc := hK.sub (tys' := [(cZ, .boolean), (cI, .int)]) [3, 1] rfl
      refine ps_i (va_runV (As := [.int a1, .int 52]) (rest := []) ⟨hx, hb, hml, hown, hw0⟩ (o_asked_N l dC dI h0 0 0 (vI σ.go) (.ref hbu) (nI σ.buf.length) (.ref hln) (.ref hau) (.ref hsu) (.ref hrow) (.ref hmade) z_madeSize (.ref hbase) z_baseSize (.ref htx9) z_textSize σ.stp (.ref hot) z_otherSize (.ref hpc) z_pieceSize z_at z_end z_value σ.nd hgo cZ (fg) hfi cI (ff) hma (fm) a1 52 (by first | assumption | decide | omega) (by first | assumption | decide | omega)) (cwV 2 hw0 (gd_V 291 292 293 161 294 rfl rfl rfl rfl rfl) rfl rfl rfl (by decide +kernel) ⟨by decide +kernel, by decide +kernel⟩) (prV_R hPc hKc hN (va_recv hKc hPc (ci := 7) (q0 := 0) rfl rfl)) rfl rfl hl.1 rfl (lv_room (Nat.le_of_ble_eq_true rfl)) d_O_verify_21 ⟨by decide +kernel, by decide +kernel⟩) (fun r_55 hr_55 => ?_)
      obtain rfl : r_55 = 0 := hr_55
      refine lv_if_eq (tgt := 64) hx hb d_O_verify_24 (by decide) (fun _ => ?_) (fun h9 => absurd h9 (by decide +kernel))
      refine lv_iinc (v := 53) (lv' := [(2, .int 53), (0, .ref h0), (1, .int a1)]) hx hb d_O_verify_64 hl (k := 0) rfl (by decide +kernel) (by decide) rfl (fun ls hl => ?_)
      refine lv_goto (tgt := 12) hx hb d_O_verify_67 (by decide) ?_
      refine lv_iload_n hx hb d_O_verify_12 rfl (lv_at hl 0 rfl) ?_
      refine lv_bipush (v := 64) hx hb d_O_verify_13 (by decide +kernel) ?_
      refine lv_icmp_ge (tgt := 70) hx hb d_O_verify_15 (by decide) (fun h9 => absurd h9 (by decide +kernel)) (fun _ => ?_)
      refine lv_aload_n hx hb d_O_verify_18 rfl (lv_at hl 1 rfl) ?_
      refine lv_iload_n hx hb d_O_verify_19 rfl (lv_at hl 2 rfl) ?_
      refine lv_iload_n hx hb d_O_verify_20 rfl (lv_at hl 0 rfl) ?_
      have hPc := hP.sub (ws' := [(h0, .inr (7, [.int 0, .int 0, .int (vI σ.go), .ref hbu, .int (nI σ.buf.length), .int (nI σ.nd), .ref hgo, .ref hfi, .ref hma, .ref hln, .ref hau, .ref hsu, .ref hrow, .ref hmade, .int z_madeSize, .ref hbase, .int z_baseSize, .ref htx9, .int z_textSize, .int σ.stp, .ref hot, .int z_otherSize, .ref hpc, .int z_pieceSize, .int z_at, .int z_end, .int z_value])), (hgo, .inl (cZ, 8, .inl ((fg)))), (hfi, .inl (cI, 8, .inl ((ff)))), (hma, .inl (cI, 8, .inl ((fm))))]) [13, 1, 2, 3] rfl
      have hKc := hK.sub (tys' := [(cZ, .boolean), (cI, .int)]) [3, 1] rfl
      refine ps_i (va_runV (As := [.int a1, .int 53]) (rest := []) ⟨hx, hb, hml, hown, hw0⟩ (o_asked_N l dC dI h0 0 0 (vI σ.go) (.ref hbu) (nI σ.buf.length) (.ref hln) (.ref hau) (.ref hsu) (.ref hrow) (.ref hmade) z_madeSize (.ref hbase) z_baseSize (.ref htx9) z_textSize σ.stp (.ref hot) z_otherSize (.ref hpc) z_pieceSize z_at z_end z_value σ.nd hgo cZ (fg) hfi cI (ff) hma (fm) a1 53 (by first | assumption | decide | omega) (by first | assumption | decide | omega)) (cwV 2 hw0 (gd_V 291 292 293 161 294 rfl rfl rfl rfl rfl) rfl rfl rfl (by decide +kernel) ⟨by decide +kernel, by decide +kernel⟩) (prV_R hPc hKc hN (va_recv hKc hPc (ci := 7) (q0 := 0) rfl rfl)) rfl rfl hl.1 rfl (lv_room (Nat.le_of_ble_eq_true rfl)) d_O_verify_21 ⟨by decide +kernel, by decide +kernel⟩) (fun r_56 hr_56 => ?_)
      obtain rfl : r_56 = 0 := hr_56
      refine lv_if_eq (tgt := 64) hx hb d_O_verify_24 (by decide) (fun _ => ?_) (fun h9 => absurd h9 (by decide +kernel))
      refine lv_iinc (v := 54) (lv' := [(2, .int 54), (0, .ref h0), (1, .int a1)]) hx hb d_O_verify_64 hl (k := 0) rfl (by decide +kernel) (by decide) rfl (fun ls hl => ?_)
      refine lv_goto (tgt := 12) hx hb d_O_verify_67 (by decide) ?_
      refine lv_iload_n hx hb d_O_verify_12 rfl (lv_at hl 0 rfl) ?_
      refine lv_bipush (v := 64) hx hb d_O_verify_13 (by decide +kernel) ?_
      refine lv_icmp_ge (tgt := 70) hx hb d_O_verify_15 (by decide) (fun h9 => absurd h9 (by decide +kernel)) (fun _ => ?_)
      refine lv_aload_n hx hb d_O_verify_18 rfl (lv_at hl 1 rfl) ?_
      refine lv_iload_n hx hb d_O_verify_19 rfl (lv_at hl 2 rfl) ?_
      refine lv_iload_n hx hb d_O_verify_20 rfl (lv_at hl 0 rfl) ?_
      have hPc := hP.sub (ws' := [(h0, .inr (7, [.int 0, .int 0, .int (vI σ.go), .ref hbu, .int (nI σ.buf.length), .int (nI σ.nd), .ref hgo, .ref hfi, .ref hma, .ref hln, .ref hau, .ref hsu, .ref hrow, .ref hmade, .int z_madeSize, .ref hbase, .int z_baseSize, .ref htx9, .int z_textSize, .int σ.stp, .ref hot, .int z_otherSize, .ref hpc, .int z_pieceSize, .int z_at, .int z_end, .int z_value])), (hgo, .inl (cZ, 8, .inl ((fg)))), (hfi, .inl (cI, 8, .inl ((ff)))), (hma, .inl (cI, 8, .inl ((fm))))]) [13, 1, 2, 3] rfl
      have hKc := hK.sub (tys' := [(cZ, .boolean), (cI, .int)]) [3, 1] rfl
      refine ps_i (va_runV (As := [.int a1, .int 54]) (rest := []) ⟨hx, hb, hml, hown, hw0⟩ (o_asked_N l dC dI h0 0 0 (vI σ.go) (.ref hbu) (nI σ.buf.length) (.ref hln) (.ref hau) (.ref hsu) (.ref hrow) (.ref hmade) z_madeSize (.ref hbase) z_baseSize (.ref htx9) z_textSize σ.stp (.ref hot) z_otherSize (.ref hpc) z_pieceSize z_at z_end z_value σ.nd hgo cZ (fg) hfi cI (ff) hma (fm) a1 54 (by first | assumption | decide | omega) (by first | assumption | decide | omega)) (cwV 2 hw0 (gd_V 291 292 293 161 294 rfl rfl rfl rfl rfl) rfl rfl rfl (by decide +kernel) ⟨by decide +kernel, by decide +kernel⟩) (prV_R hPc hKc hN (va_recv hKc hPc (ci := 7) (q0 := 0) rfl rfl)) rfl rfl hl.1 rfl (lv_room (Nat.le_of_ble_eq_true rfl)) d_O_verify_21 ⟨by decide +kernel, by decide +kernel⟩) (fun r_57 hr_57 => ?_)
      obtain rfl : r_57 = 0 := hr_57
      refine lv_if_eq (tgt := 64) hx hb d_O_verify_24 (by decide) (fun _ => ?_) (fun h9 => absurd h9 (by decide +kernel))
      refine lv_iinc (v := 55) (lv' := [(2, .int 55), (0, .ref h0), (1, .int a1)]) hx hb d_O_verify_64 hl (k := 0) rfl (by decide +kernel) (by decide) rfl (fun ls hl => ?_)
      refine lv_goto (tgt := 12) hx hb d_O_verify_67 (by decide) ?_
      refine lv_iload_n hx hb d_O_verify_12 rfl (lv_at hl 0 rfl) ?_
      refine lv_bipush (v := 64) hx hb d_O_verify_13 (by decide +kernel) ?_
      refine lv_icmp_ge (tgt := 70) hx hb d_O_verify_15 (by decide) (fun h9 => absurd h9 (by decide +kernel)) (fun _ => ?_)
      refine lv_aload_n hx hb d_O_verify_18 rfl (lv_at hl 1 rfl) ?_
      refine lv_iload_n hx hb d_O_verify_19 rfl (lv_at hl 2 rfl) ?_
      refine lv_iload_n hx hb d_O_verify_20 rfl (lv_at hl 0 rfl) ?_
      have hPc := hP.sub (ws' := [(h0, .inr (7, [.int 0, .int 0, .int (vI σ.go), .ref hbu, .int (nI σ.buf.length), .int (nI σ.nd), .ref hgo, .ref hfi, .ref hma, .ref hln, .ref hau, .ref hsu, .ref hrow, .ref hmade, .int z_madeSize, .ref hbase, .int z_baseSize, .ref htx9, .int z_textSize, .int σ.stp, .ref hot, .int z_otherSize, .ref hpc, .int z_pieceSize, .int z_at, .int z_end, .int z_value])), (hgo, .inl (cZ, 8, .inl ((fg)))), (hfi, .inl (cI, 8, .inl ((ff)))), (hma, .inl (cI, 8, .inl ((fm))))]) [13, 1, 2, 3] rfl
      have hKc := hK.sub (tys' := [(cZ, .boolean), (cI, .int)]) [3, 1] rfl
      refine ps_i (va_runV (As := [.int a1, .int 55]) (rest := []) ⟨hx, hb, hml, hown, hw0⟩ (o_asked_N l dC dI h0 0 0 (vI σ.go) (.ref hbu) (nI σ.buf.length) (.ref hln) (.ref hau) (.ref hsu) (.ref hrow) (.ref hmade) z_madeSize (.ref hbase) z_baseSize (.ref htx9) z_textSize σ.stp (.ref hot) z_otherSize (.ref hpc) z_pieceSize z_at z_end z_value σ.nd hgo cZ (fg) hfi cI (ff) hma (fm) a1 55 (by first | assumption | decide | omega) (by first | assumption | decide | omega)) (cwV 2 hw0 (gd_V 291 292 293 161 294 rfl rfl rfl rfl rfl) rfl rfl rfl (by decide +kernel) ⟨by decide +kernel, by decide +kernel⟩) (prV_R hPc hKc hN (va_recv hKc hPc (ci := 7) (q0 := 0) rfl rfl)) rfl rfl hl.1 rfl (lv_room (Nat.le_of_ble_eq_true rfl)) d_O_verify_21 ⟨by decide +kernel, by decide +kernel⟩) (fun r_58 hr_58 => ?_)
      obtain rfl : r_58 = 0 := hr_58
      refine lv_if_eq (tgt := 64) hx hb d_O_verify_24 (by decide) (fun _ => ?_) (fun h9 => absurd h9 (by decide +kernel))
      refine lv_iinc (v := 56) (lv' := [(2, .int 56), (0, .ref h0), (1, .int a1)]) hx hb d_O_verify_64 hl (k := 0) rfl (by decide +kernel) (by decide) rfl (fun ls hl => ?_)
      refine lv_goto (tgt := 12) hx hb d_O_verify_67 (by decide) ?_
      refine lv_iload_n hx hb d_O_verify_12 rfl (lv_at hl 0 rfl) ?_
      refine lv_bipush (v := 64) hx hb d_O_verify_13 (by decide +kernel) ?_
      refine lv_icmp_ge (tgt := 70) hx hb d_O_verify_15 (by decide) (fun h9 => absurd h9 (by decide +kernel)) (fun _ => ?_)
      refine lv_aload_n hx hb d_O_verify_18 rfl (lv_at hl 1 rfl) ?_
      refine lv_iload_n hx hb d_O_verify_19 rfl (lv_at hl 2 rfl) ?_
      refine lv_iload_n hx hb d_O_verify_20 rfl (lv_at hl 0 rfl) ?_
      have hPc := hP.sub (ws' := [(h0, .inr (7, [.int 0, .int 0, .int (vI σ.go), .ref hbu, .int (nI σ.buf.length), .int (nI σ.nd), .ref hgo, .ref hfi, .ref hma, .ref hln, .ref hau, .ref hsu, .ref hrow, .ref hmade, .int z_madeSize, .ref hbase, .int z_baseSize, .ref htx9, .int z_textSize, .int σ.stp, .ref hot, .int z_otherSize, .ref hpc, .int z_pieceSize, .int z_at, .int z_end, .int z_value])), (hgo, .inl (cZ, 8, .inl ((fg)))), (hfi, .inl (cI, 8, .inl ((ff)))), (hma, .inl (cI, 8, .inl ((fm))))]) [13, 1, 2, 3] rfl
      have hKc := hK.sub (tys' := [(cZ, .boolean), (cI, .int)]) [3, 1] rfl
      refine ps_i (va_runV (As := [.int a1, .int 56]) (rest := []) ⟨hx, hb, hml, hown, hw0⟩ (o_asked_N l dC dI h0 0 0 (vI σ.go) (.ref hbu) (nI σ.buf.length) (.ref hln) (.ref hau) (.ref hsu) (.ref hrow) (.ref hmade) z_madeSize (.ref hbase) z_baseSize (.ref htx9) z_textSize σ.stp (.ref hot) z_otherSize (.ref hpc) z_pieceSize z_at z_end z_value σ.nd hgo cZ (fg) hfi cI (ff) hma (fm) a1 56 (by first | assumption | decide | omega) (by first | assumption | decide | omega)) (cwV 2 hw0 (gd_V 291 292 293 161 294 rfl rfl rfl rfl rfl) rfl rfl rfl (by decide +kernel) ⟨by decide +kernel, by decide +kernel⟩) (prV_R hPc hKc hN (va_recv hKc hPc (ci := 7) (q0 := 0) rfl rfl)) rfl rfl hl.1 rfl (lv_room (Nat.le_of_ble_eq_true rfl)) d_O_verify_21 ⟨by decide +kernel, by decide +kernel⟩) (fun r_59 hr_59 => ?_)
      obtain rfl : r_59 = 0 := hr_59
      refine lv_if_eq (tgt := 64) hx hb d_O_verify_24 (by decide) (fun _ => ?_) (fun h9 => absurd h9 (by decide +kernel))
      refine lv_iinc (v := 57) (lv' := [(2, .int 57), (0, .ref h0), (1, .int a1)]) hx hb d_O_verify_64 hl (k := 0) rfl (by decide +kernel) (by decide) rfl (fun ls hl => ?_)
      refine lv_goto (tgt := 12) hx hb d_O_verify_67 (by decide) ?_
      refine lv_iload_n hx hb d_O_verify_12 rfl (lv_at hl 0 rfl) ?_
      refine lv_bipush (v := 64) hx hb d_O_verify_13 (by decide +kernel) ?_
      refine lv_icmp_ge (tgt := 70) hx hb d_O_verify_15 (by decide) (fun h9 => absurd h9 (by decide +kernel)) (fun _ => ?_)
      refine lv_aload_n hx hb d_O_verify_18 rfl (lv_at hl 1 rfl) ?_
      refine lv_iload_n hx hb d_O_verify_19 rfl (lv_at hl 2 rfl) ?_
      refine lv_iload_n hx hb d_O_verify_20 rfl (lv_at hl 0 rfl) ?_
      have hPc := hP.sub (ws' := [(h0, .inr (7, [.int 0, .int 0, .int (vI σ.go), .ref hbu, .int (nI σ.buf.length), .int (nI σ.nd), .ref hgo, .ref hfi, .ref hma, .ref hln, .ref hau, .ref hsu, .ref hrow, .ref hmade, .int z_madeSize, .ref hbase, .int z_baseSize, .ref htx9, .int z_textSize, .int σ.stp, .ref hot, .int z_otherSize, .ref hpc, .int z_pieceSize, .int z_at, .int z_end, .int z_value])), (hgo, .inl (cZ, 8, .inl ((fg)))), (hfi, .inl (cI, 8, .inl ((ff)))), (hma, .inl (cI, 8, .inl ((fm))))]) [13, 1, 2, 3] rfl
      have hKc := hK.sub (tys' := [(cZ, .boolean), (cI, .int)]) [3, 1] rfl
      refine ps_i (va_runV (As := [.int a1, .int 57]) (rest := []) ⟨hx, hb, hml, hown, hw0⟩ (o_asked_N l dC dI h0 0 0 (vI σ.go) (.ref hbu) (nI σ.buf.length) (.ref hln) (.ref hau) (.ref hsu) (.ref hrow) (.ref hmade) z_madeSize (.ref hbase) z_baseSize (.ref htx9) z_textSize σ.stp (.ref hot) z_otherSize (.ref hpc) z_pieceSize z_at z_end z_value σ.nd hgo cZ (fg) hfi cI (ff) hma (fm) a1 57 (by first | assumption | decide | omega) (by first | assumption | decide | omega)) (cwV 2 hw0 (gd_V 291 292 293 161 294 rfl rfl rfl rfl rfl) rfl rfl rfl (by decide +kernel) ⟨by decide +kernel, by decide +kernel⟩) (prV_R hPc hKc hN (va_recv hKc hPc (ci := 7) (q0 := 0) rfl rfl)) rfl rfl hl.1 rfl (lv_room (Nat.le_of_ble_eq_true rfl)) d_O_verify_21 ⟨by decide +kernel, by decide +kernel⟩) (fun r_60 hr_60 => ?_)
      obtain rfl : r_60 = 0 := hr_60
      refine lv_if_eq (tgt := 64) hx hb d_O_verify_24 (by decide) (fun _ => ?_) (fun h9 => absurd h9 (by decide +kernel))
      refine lv_iinc (v := 58) (lv' := [(2, .int 58), (0, .ref h0), (1, .int a1)]) hx hb d_O_verify_64 hl (k := 0) rfl (by decide +kernel) (by decide) rfl (fun ls hl => ?_)
      refine lv_goto (tgt := 12) hx hb d_O_verify_67 (by decide) ?_
      refine lv_iload_n hx hb d_O_verify_12 rfl (lv_at hl 0 rfl) ?_
      refine lv_bipush (v := 64) hx hb d_O_verify_13 (by decide +kernel) ?_
      refine lv_icmp_ge (tgt := 70) hx hb d_O_verify_15 (by decide) (fun h9 => absurd h9 (by decide +kernel)) (fun _ => ?_)
      refine lv_aload_n hx hb d_O_verify_18 rfl (lv_at hl 1 rfl) ?_
      refine lv_iload_n hx hb d_O_verify_19 rfl (lv_at hl 2 rfl) ?_
      refine lv_iload_n hx hb d_O_verify_20 rfl (lv_at hl 0 rfl) ?_
      have hPc := hP.sub (ws' := [(h0, .inr (7, [.int 0, .int 0, .int (vI σ.go), .ref hbu, .int (nI σ.buf.length), .int (nI σ.nd), .ref hgo, .ref hfi, .ref hma, .ref hln, .ref hau, .ref hsu, .ref hrow, .ref hmade, .int z_madeSize, .ref hbase, .int z_baseSize, .ref htx9, .int z_textSize, .int σ.stp, .ref hot, .int z_otherSize, .ref hpc, .int z_pieceSize, .int z_at, .int z_end, .int z_value])), (hgo, .inl (cZ, 8, .inl ((fg)))), (hfi, .inl (cI, 8, .inl ((ff)))), (hma, .inl (cI, 8, .inl ((fm))))]) [13, 1, 2, 3] rfl
      have hKc := hK.sub (tys' := [(cZ, .boolean), (cI, .int)]) [3, 1] rfl
      refine ps_i (va_runV (As := [.int a1, .int 58]) (rest := []) ⟨hx, hb, hml, hown, hw0⟩ (o_asked_N l dC dI h0 0 0 (vI σ.go) (.ref hbu) (nI σ.buf.length) (.ref hln) (.ref hau) (.ref hsu) (.ref hrow) (.ref hmade) z_madeSize (.ref hbase) z_baseSize (.ref htx9) z_textSize σ.stp (.ref hot) z_otherSize (.ref hpc) z_pieceSize z_at z_end z_value σ.nd hgo cZ (fg) hfi cI (ff) hma (fm) a1 58 (by first | assumption | decide | omega) (by first | assumption | decide | omega)) (cwV 2 hw0 (gd_V 291 292 293 161 294 rfl rfl rfl rfl rfl) rfl rfl rfl (by decide +kernel) ⟨by decide +kernel, by decide +kernel⟩) (prV_R hPc hKc hN (va_recv hKc hPc (ci := 7) (q0 := 0) rfl rfl)) rfl rfl hl.1 rfl (lv_room (Nat.le_of_ble_eq_true rfl)) d_O_verify_21 ⟨by decide +kernel, by decide +kernel⟩) (fun r_61 hr_61 => ?_)
      obtain rfl : r_61 = 0 := hr_61
      refine lv_if_eq (tgt := 64) hx hb d_O_verify_24 (by decide) (fun _ => ?_) (fun h9 => absurd h9 (by decide +kernel))
      refine lv_iinc (v := 59) (lv' := [(2, .int 59), (0, .ref h0), (1, .int a1)]) hx hb d_O_verify_64 hl (k := 0) rfl (by decide +kernel) (by decide) rfl (fun ls hl => ?_)
      refine lv_goto (tgt := 12) hx hb d_O_verify_67 (by decide) ?_
      refine lv_iload_n hx hb d_O_verify_12 rfl (lv_at hl 0 rfl) ?_
      refine lv_bipush (v := 64) hx hb d_O_verify_13 (by decide +kernel) ?_
      refine lv_icmp_ge (tgt := 70) hx hb d_O_verify_15 (by decide) (fun h9 => absurd h9 (by decide +kernel)) (fun _ => ?_)
      refine lv_aload_n hx hb d_O_verify_18 rfl (lv_at hl 1 rfl) ?_
      refine lv_iload_n hx hb d_O_verify_19 rfl (lv_at hl 2 rfl) ?_
      refine lv_iload_n hx hb d_O_verify_20 rfl (lv_at hl 0 rfl) ?_
      have hPc := hP.sub (ws' := [(h0, .inr (7, [.int 0, .int 0, .int (vI σ.go), .ref hbu, .int (nI σ.buf.length), .int (nI σ.nd), .ref hgo, .ref hfi, .ref hma, .ref hln, .ref hau, .ref hsu, .ref hrow, .ref hmade, .int z_madeSize, .ref hbase, .int z_baseSize, .ref htx9, .int z_textSize, .int σ.stp, .ref hot, .int z_otherSize, .ref hpc, .int z_pieceSize, .int z_at, .int z_end, .int z_value])), (hgo, .inl (cZ, 8, .inl ((fg)))), (hfi, .inl (cI, 8, .inl ((ff)))), (hma, .inl (cI, 8, .inl ((fm))))]) [13, 1, 2, 3] rfl
      have hKc := hK.sub (tys' := [(cZ, .boolean), (cI, .int)]) [3, 1] rfl
      refine ps_i (va_runV (As := [.int a1, .int 59]) (rest := []) ⟨hx, hb, hml, hown, hw0⟩ (o_asked_N l dC dI h0 0 0 (vI σ.go) (.ref hbu) (nI σ.buf.length) (.ref hln) (.ref hau) (.ref hsu) (.ref hrow) (.ref hmade) z_madeSize (.ref hbase) z_baseSize (.ref htx9) z_textSize σ.stp (.ref hot) z_otherSize (.ref hpc) z_pieceSize z_at z_end z_value σ.nd hgo cZ (fg) hfi cI (ff) hma (fm) a1 59 (by first | assumption | decide | omega) (by first | assumption | decide | omega)) (cwV 2 hw0 (gd_V 291 292 293 161 294 rfl rfl rfl rfl rfl) rfl rfl rfl (by decide +kernel) ⟨by decide +kernel, by decide +kernel⟩) (prV_R hPc hKc hN (va_recv hKc hPc (ci := 7) (q0 := 0) rfl rfl)) rfl rfl hl.1 rfl (lv_room (Nat.le_of_ble_eq_true rfl)) d_O_verify_21 ⟨by decide +kernel, by decide +kernel⟩) (fun r_62 hr_62 => ?_)
      obtain rfl : r_62 = 0 := hr_62
      refine lv_if_eq (tgt := 64) hx hb d_O_verify_24 (by decide) (fun _ => ?_) (fun h9 => absurd h9 (by decide +kernel))
      refine lv_iinc (v := 60) (lv' := [(2, .int 60), (0, .ref h0), (1, .int a1)]) hx hb d_O_verify_64 hl (k := 0) rfl (by decide +kernel) (by decide) rfl (fun ls hl => ?_)
      refine lv_goto (tgt := 12) hx hb d_O_verify_67 (by decide) ?_
      refine lv_iload_n hx hb d_O_verify_12 rfl (lv_at hl 0 rfl) ?_
      refine lv_bipush (v := 64) hx hb d_O_verify_13 (by decide +kernel) ?_
      refine lv_icmp_ge (tgt := 70) hx hb d_O_verify_15 (by decide) (fun h9 => absurd h9 (by decide +kernel)) (fun _ => ?_)
      refine lv_aload_n hx hb d_O_verify_18 rfl (lv_at hl 1 rfl) ?_
      refine lv_iload_n hx hb d_O_verify_19 rfl (lv_at hl 2 rfl) ?_
      refine lv_iload_n hx hb d_O_verify_20 rfl (lv_at hl 0 rfl) ?_
      have hPc := hP.sub (ws' := [(h0, .inr (7, [.int 0, .int 0, .int (vI σ.go), .ref hbu, .int (nI σ.buf.length), .int (nI σ.nd), .ref hgo, .ref hfi, .ref hma, .ref hln, .ref hau, .ref hsu, .ref hrow, .ref hmade, .int z_madeSize, .ref hbase, .int z_baseSize, .ref htx9, .int z_textSize, .int σ.stp, .ref hot, .int z_otherSize, .ref hpc, .int z_pieceSize, .int z_at, .int z_end, .int z_value])), (hgo, .inl (cZ, 8, .inl ((fg)))), (hfi, .inl (cI, 8, .inl ((ff)))), (hma, .inl (cI, 8, .inl ((fm))))]) [13, 1, 2, 3] rfl
      have hKc := hK.sub (tys' := [(cZ, .boolean), (cI, .int)]) [3, 1] rfl
      refine ps_i (va_runV (As := [.int a1, .int 60]) (rest := []) ⟨hx, hb, hml, hown, hw0⟩ (o_asked_N l dC dI h0 0 0 (vI σ.go) (.ref hbu) (nI σ.buf.length) (.ref hln) (.ref hau) (.ref hsu) (.ref hrow) (.ref hmade) z_madeSize (.ref hbase) z_baseSize (.ref htx9) z_textSize σ.stp (.ref hot) z_otherSize (.ref hpc) z_pieceSize z_at z_end z_value σ.nd hgo cZ (fg) hfi cI (ff) hma (fm) a1 60 (by first | assumption | decide | omega) (by first | assumption | decide | omega)) (cwV 2 hw0 (gd_V 291 292 293 161 294 rfl rfl rfl rfl rfl) rfl rfl rfl (by decide +kernel) ⟨by decide +kernel, by decide +kernel⟩) (prV_R hPc hKc hN (va_recv hKc hPc (ci := 7) (q0 := 0) rfl rfl)) rfl rfl hl.1 rfl (lv_room (Nat.le_of_ble_eq_true rfl)) d_O_verify_21 ⟨by decide +kernel, by decide +kernel⟩) (fun r_63 hr_63 => ?_)
      obtain rfl : r_63 = 0 := hr_63
      refine lv_if_eq (tgt := 64) hx hb d_O_verify_24 (by decide) (fun _ => ?_) (fun h9 => absurd h9 (by decide +kernel))
      refine lv_iinc (v := 61) (lv' := [(2, .int 61), (0, .ref h0), (1, .int a1)]) hx hb d_O_verify_64 hl (k := 0) rfl (by decide +kernel) (by decide) rfl (fun ls hl => ?_)
      refine lv_goto (tgt := 12) hx hb d_O_verify_67 (by decide) ?_
      refine lv_iload_n hx hb d_O_verify_12 rfl (lv_at hl 0 rfl) ?_
      refine lv_bipush (v := 64) hx hb d_O_verify_13 (by decide +kernel) ?_
      refine lv_icmp_ge (tgt := 70) hx hb d_O_verify_15 (by decide) (fun h9 => absurd h9 (by decide +kernel)) (fun _ => ?_)
      refine lv_aload_n hx hb d_O_verify_18 rfl (lv_at hl 1 rfl) ?_
      refine lv_iload_n hx hb d_O_verify_19 rfl (lv_at hl 2 rfl) ?_
      refine lv_iload_n hx hb d_O_verify_20 rfl (lv_at hl 0 rfl) ?_
      have hPc := hP.sub (ws' := [(h0, .inr (7, [.int 0, .int 0, .int (vI σ.go), .ref hbu, .int (nI σ.buf.length), .int (nI σ.nd), .ref hgo, .ref hfi, .ref hma, .ref hln, .ref hau, .ref hsu, .ref hrow, .ref hmade, .int z_madeSize, .ref hbase, .int z_baseSize, .ref htx9, .int z_textSize, .int σ.stp, .ref hot, .int z_otherSize, .ref hpc, .int z_pieceSize, .int z_at, .int z_end, .int z_value])), (hgo, .inl (cZ, 8, .inl ((fg)))), (hfi, .inl (cI, 8, .inl ((ff)))), (hma, .inl (cI, 8, .inl ((fm))))]) [13, 1, 2, 3] rfl
      have hKc := hK.sub (tys' := [(cZ, .boolean), (cI, .int)]) [3, 1] rfl
      refine ps_i (va_runV (As := [.int a1, .int 61]) (rest := []) ⟨hx, hb, hml, hown, hw0⟩ (o_asked_N l dC dI h0 0 0 (vI σ.go) (.ref hbu) (nI σ.buf.length) (.ref hln) (.ref hau) (.ref hsu) (.ref hrow) (.ref hmade) z_madeSize (.ref hbase) z_baseSize (.ref htx9) z_textSize σ.stp (.ref hot) z_otherSize (.ref hpc) z_pieceSize z_at z_end z_value σ.nd hgo cZ (fg) hfi cI (ff) hma (fm) a1 61 (by first | assumption | decide | omega) (by first | assumption | decide | omega)) (cwV 2 hw0 (gd_V 291 292 293 161 294 rfl rfl rfl rfl rfl) rfl rfl rfl (by decide +kernel) ⟨by decide +kernel, by decide +kernel⟩) (prV_R hPc hKc hN (va_recv hKc hPc (ci := 7) (q0 := 0) rfl rfl)) rfl rfl hl.1 rfl (lv_room (Nat.le_of_ble_eq_true rfl)) d_O_verify_21 ⟨by decide +kernel, by decide +kernel⟩) (fun r_64 hr_64 => ?_)
      obtain rfl : r_64 = 0 := hr_64
      refine lv_if_eq (tgt := 64) hx hb d_O_verify_24 (by decide) (fun _ => ?_) (fun h9 => absurd h9 (by decide +kernel))
      refine lv_iinc (v := 62) (lv' := [(2, .int 62), (0, .ref h0), (1, .int a1)]) hx hb d_O_verify_64 hl (k := 0) rfl (by decide +kernel) (by decide) rfl (fun ls hl => ?_)
      refine lv_goto (tgt := 12) hx hb d_O_verify_67 (by decide) ?_
      refine lv_iload_n hx hb d_O_verify_12 rfl (lv_at hl 0 rfl) ?_
      refine lv_bipush (v := 64) hx hb d_O_verify_13 (by decide +kernel) ?_
      refine lv_icmp_ge (tgt := 70) hx hb d_O_verify_15 (by decide) (fun h9 => absurd h9 (by decide +kernel)) (fun _ => ?_)
      refine lv_aload_n hx hb d_O_verify_18 rfl (lv_at hl 1 rfl) ?_
      refine lv_iload_n hx hb d_O_verify_19 rfl (lv_at hl 2 rfl) ?_
      refine lv_iload_n hx hb d_O_verify_20 rfl (lv_at hl 0 rfl) ?_
      have hPc := hP.sub (ws' := [(h0, .inr (7, [.int 0, .int 0, .int (vI σ.go), .ref hbu, .int (nI σ.buf.length), .int (nI σ.nd), .ref hgo, .ref hfi, .ref hma, .ref hln, .ref hau, .ref hsu, .ref hrow, .ref hmade, .int z_madeSize, .ref hbase, .int z_baseSize, .ref htx9, .int z_textSize, .int σ.stp, .ref hot, .int z_otherSize, .ref hpc, .int z_pieceSize, .int z_at, .int z_end, .int z_value])), (hgo, .inl (cZ, 8, .inl ((fg)))), (hfi, .inl (cI, 8, .inl ((ff)))), (hma, .inl (cI, 8, .inl ((fm))))]) [13, 1, 2, 3] rfl
      have hKc := hK.sub (tys' := [(cZ, .boolean), (cI, .int)]) [3, 1] rfl
      refine ps_i (va_runV (As := [.int a1, .int 62]) (rest := []) ⟨hx, hb, hml, hown, hw0⟩ (o_asked_N l dC dI h0 0 0 (vI σ.go) (.ref hbu) (nI σ.buf.length) (.ref hln) (.ref hau) (.ref hsu) (.ref hrow) (.ref hmade) z_madeSize (.ref hbase) z_baseSize (.ref htx9) z_textSize σ.stp (.ref hot) z_otherSize (.ref hpc) z_pieceSize z_at z_end z_value σ.nd hgo cZ (fg) hfi cI (ff) hma (fm) a1 62 (by first | assumption | decide | omega) (by first | assumption | decide | omega)) (cwV 2 hw0 (gd_V 291 292 293 161 294 rfl rfl rfl rfl rfl) rfl rfl rfl (by decide +kernel) ⟨by decide +kernel, by decide +kernel⟩) (prV_R hPc hKc hN (va_recv hKc hPc (ci := 7) (q0 := 0) rfl rfl)) rfl rfl hl.1 rfl (lv_room (Nat.le_of_ble_eq_true rfl)) d_O_verify_21 ⟨by decide +kernel, by decide +kernel⟩) (fun r_65 hr_65 => ?_)
      obtain rfl : r_65 = 0 := hr_65
      refine lv_if_eq (tgt := 64) hx hb d_O_verify_24 (by decide) (fun _ => ?_) (fun h9 => absurd h9 (by decide +kernel))
      refine lv_iinc (v := 63) (lv' := [(2, .int 63), (0, .ref h0), (1, .int a1)]) hx hb d_O_verify_64 hl (k := 0) rfl (by decide +kernel) (by decide) rfl (fun ls hl => ?_)
      refine lv_goto (tgt := 12) hx hb d_O_verify_67 (by decide) ?_
      refine lv_iload_n hx hb d_O_verify_12 rfl (lv_at hl 0 rfl) ?_
      refine lv_bipush (v := 64) hx hb d_O_verify_13 (by decide +kernel) ?_
      refine lv_icmp_ge (tgt := 70) hx hb d_O_verify_15 (by decide) (fun h9 => absurd h9 (by decide +kernel)) (fun _ => ?_)
      refine lv_aload_n hx hb d_O_verify_18 rfl (lv_at hl 1 rfl) ?_
      refine lv_iload_n hx hb d_O_verify_19 rfl (lv_at hl 2 rfl) ?_
      refine lv_iload_n hx hb d_O_verify_20 rfl (lv_at hl 0 rfl) ?_
      have hPc := hP.sub (ws' := [(h0, .inr (7, [.int 0, .int 0, .int (vI σ.go), .ref hbu, .int (nI σ.buf.length), .int (nI σ.nd), .ref hgo, .ref hfi, .ref hma, .ref hln, .ref hau, .ref hsu, .ref hrow, .ref hmade, .int z_madeSize, .ref hbase, .int z_baseSize, .ref htx9, .int z_textSize, .int σ.stp, .ref hot, .int z_otherSize, .ref hpc, .int z_pieceSize, .int z_at, .int z_end, .int z_value])), (hgo, .inl (cZ, 8, .inl ((fg)))), (hfi, .inl (cI, 8, .inl ((ff)))), (hma, .inl (cI, 8, .inl ((fm))))]) [13, 1, 2, 3] rfl
      have hKc := hK.sub (tys' := [(cZ, .boolean), (cI, .int)]) [3, 1] rfl
      refine ps_i (va_runV (As := [.int a1, .int 63]) (rest := []) ⟨hx, hb, hml, hown, hw0⟩ (o_asked_N l dC dI h0 0 0 (vI σ.go) (.ref hbu) (nI σ.buf.length) (.ref hln) (.ref hau) (.ref hsu) (.ref hrow) (.ref hmade) z_madeSize (.ref hbase) z_baseSize (.ref htx9) z_textSize σ.stp (.ref hot) z_otherSize (.ref hpc) z_pieceSize z_at z_end z_value σ.nd hgo cZ (fg) hfi cI (ff) hma (fm) a1 63 (by first | assumption | decide | omega) (by first | assumption | decide | omega)) (cwV 2 hw0 (gd_V 291 292 293 161 294 rfl rfl rfl rfl rfl) rfl rfl rfl (by decide +kernel) ⟨by decide +kernel, by decide +kernel⟩) (prV_R hPc hKc hN (va_recv hKc hPc (ci := 7) (q0 := 0) rfl rfl)) rfl rfl hl.1 rfl (lv_room (Nat.le_of_ble_eq_true rfl)) d_O_verify_21 ⟨by decide +kernel, by decide +kernel⟩) (fun r_66 hr_66 => ?_)
      obtain rfl : r_66 = 0 := hr_66
      refine lv_if_eq (tgt := 64) hx hb d_O_verify_24 (by decide) (fun _ => ?_) (fun h9 => absurd h9 (by decide +kernel))
      refine lv_iinc (v := 64) (lv' := [(2, .int 64), (0, .ref h0), (1, .int a1)]) hx hb d_O_verify_64 hl (k := 0) rfl (by decide +kernel) (by decide) rfl (fun ls hl => ?_)
      refine lv_goto (tgt := 12) hx hb d_O_verify_67 (by decide) ?_
      refine lv_iload_n hx hb d_O_verify_12 rfl (lv_at hl 0 rfl) ?_
      refine lv_bipush (v := 64) hx hb d_O_verify_13 (by decide +kernel) ?_
      refine lv_icmp_ge (tgt := 70) hx hb d_O_verify_15 (by decide) (fun _ => ?_) (fun h9 => absurd h9 (by decide +kernel))
      refine lv_iconst (v := (-1)) hx hb d_O_verify_70 (by decide) ?_
      have hσ : (sVerify σ a1) = (σ, 0, (-1)) := (by unfold sVerify; rw [if_neg (by rw [hdw]; decide), hdg])
      have hP9 := hP.sub (ws' := [(h0, .inr (7, [.int 0, .int 0, .int (vI σ.go), .ref hbu, .int (nI σ.buf.length), .int (nI σ.nd), .ref hgo, .ref hfi, .ref hma, .ref hln, .ref hau, .ref hsu, .ref hrow, .ref hmade, .int z_madeSize, .ref hbase, .int z_baseSize, .ref htx9, .int z_textSize, .int σ.stp, .ref hot, .int z_otherSize, .ref hpc, .int z_pieceSize, .int z_at, .int z_end, .int z_value])), (hbu, .inl (cB, 256, .inl (fbu))), (hgo, .inl (cZ, 8, .inl (fg))), (hfi, .inl (cI, 8, .inl (ff))), (hma, .inl (cI, 8, .inl (fm))), (hln, .inl (cL, 512, .inl (fl))), (hau, .inl (cI, 512, .inl (fa))), (hsu, .inl (cI, 512, .inl (fs))), (hrow, .inl (cB, 16384, .inl (fr))), (hmade, .inl (cB, 256, .inl (f))), (hbase, .inl (cB, 256, .inl (fb))), (htx9, .inl (cB, 256, .inl (ft))), (hot, .inl (cB, 256, .inl (fo))), (hpc, .inl (cB, 600, .inl (fp)))]) [13, 0, 1, 2, 3, 4, 5, 6, 7, 8, 9, 10, 11, 12] rfl
      have hD9 := hD.sub (ws' := [(h0, .inr (7, [.int 0, .int 0, .int (vI σ.go), .ref hbu, .int (nI σ.buf.length), .int (nI σ.nd), .ref hgo, .ref hfi, .ref hma, .ref hln, .ref hau, .ref hsu, .ref hrow, .ref hmade, .int z_madeSize, .ref hbase, .int z_baseSize, .ref htx9, .int z_textSize, .int σ.stp, .ref hot, .int z_otherSize, .ref hpc, .int z_pieceSize, .int z_at, .int z_end, .int z_value])), (hbu, .inl (cB, 256, .inl (fbu))), (hgo, .inl (cZ, 8, .inl (fg))), (hfi, .inl (cI, 8, .inl (ff))), (hma, .inl (cI, 8, .inl (fm))), (hln, .inl (cL, 512, .inl (fl))), (hau, .inl (cI, 512, .inl (fa))), (hsu, .inl (cI, 512, .inl (fs))), (hrow, .inl (cB, 16384, .inl (fr))), (hmade, .inl (cB, 256, .inl (f))), (hbase, .inl (cB, 256, .inl (fb))), (htx9, .inl (cB, 256, .inl (ft))), (hot, .inl (cB, 256, .inl (fo))), (hpc, .inl (cB, 600, .inl (fp)))]) [13, 0, 1, 2, 3, 4, 5, 6, 7, 8, 9, 10, 11, 12] (by decide) rfl
      have hK9 := hK.sub (tys' := mT cB cI cL cZ) [0, 1, 2, 3] rfl
      exact W.iret (v := (-1)) hx hb hr (fun t ht hW => ⟨⟨(-1), (), rfl, (fun _ => (congrArg (fun z => z.2.2) hσ).symm), ⟨⟨hbu, hgo, hfi, hma, hln, hau, hsu, hrow, hmade, hbase, htx9, hot, hpc, 0, 0, (vI σ.go), (nI σ.buf.length), (nI σ.nd), z_madeSize, z_baseSize, z_textSize, σ.stp, z_otherSize, z_pieceSize, z_at, z_end, z_value, fbu, fg, ff, fm, fl, fa, fs, fr, f, fb, ft, fo, fp⟩, ⟨(by rw [hσ]; exact (mOk.mk hm_dw hm_la hm_sz hm_bf hm_nd hm_gn hm_fm hm_ln hm_rw hm_au hm_tq hm_st)), (congrArg (fun z => z.2.1) hσ).symm⟩, by rw [ht]; exact hP9, va_K.moved hW.alike hK9, hD9⟩⟩, hS.F ht⟩) hS.2.2 d_O_verify_71
    · obtain ⟨hi8, rfl, hdi⟩ := dGet_some hdg
      have hdk := hs.ds _ _ hdi
      have hd9 : i < σ.nd := hdk.1
      have hgn : fg i = 0 := (hm_gn i hi8).1 ⟨d, hdi⟩
      have hff : ff i = nI d.first := ((hm_fm i hi8).1 d hdi).1
      have hfm : fm i = nI d.count := ((hm_fm i hi8).1 d hdi).2
      have hdn : d.count ≤ 64 := hdk.2.2.1
      have hfd : d.first ≤ d.count := hdk.2.1
      refine lv_iconst (v := 0) hx hb d_O_verify_10 (by decide) ?_
      refine lv_istore_n (lv' := [(2, .int 0), (0, .ref h0), (1, .int (nI i))]) hx hb d_O_verify_11 rfl hl (by decide) rfl (fun ls hl => ?_)
      refine lo_ver h0 0 0 (vI σ.go) (.ref hbu) (nI σ.buf.length) (.ref hau) (.ref htx9) z_textSize σ.stp (.ref hot) z_otherSize (.ref hpc) z_pieceSize σ.nd hgo cZ fg hfi cI ff hma fm hln cL fl hsu fs hrow cB fr ([(hbu, .inl (cB, 256, .inl (fbu))), (hau, .inl (cI, 512, .inl (fa))), (htx9, .inl (cB, 256, .inl (ft))), (hot, .inl (cB, 256, .inl (fo))), (hpc, .inl (cB, 600, .inl (fp)))]) (pqS σ.ds) i d hnd8 hd9 hgn hff hfm hdk.2 hfl hrw (fun j hj => pqS_s hj hdi) (fun j r hj hr => (hm_au i j d r hi8 hj hdi hr).2) hx hb hml hown hw0 hN (hK.sub (tys' := [(cB, .byte), (cI, .int), (cL, .short), (cZ, .boolean)]) [0, 1, 2, 3] rfl) hA (fun hmade8 hbase8 mz8 f8 fb8 bz8 at08 en08 vv08 g0 H locs hP hD hS ls hl => ?_) (fun j8 hmade8 hbase8 mz8 f8 fb8 bz8 at08 en08 vv08 g0 g1 g2 g3 H locs hP hD hS ls hl => ?_) 65 0 (by omega) (by omega) hmade hbase z_madeSize f fb z_baseSize z_at z_end z_value (fun t h1 h2 => absurd h2 (Nat.not_lt_zero t)) _ _ (hP.sub (ws' := [(h0, .inr (7, [.int 0, .int 0, .int (vI σ.go), .ref hbu, .int (nI σ.buf.length), .int (nI σ.nd), .ref hgo, .ref hfi, .ref hma, .ref hln, .ref hau, .ref hsu, .ref hrow, .ref hmade, .int z_madeSize, .ref hbase, .int z_baseSize, .ref htx9, .int z_textSize, .int σ.stp, .ref hot, .int z_otherSize, .ref hpc, .int z_pieceSize, .int z_at, .int z_end, .int z_value])), (hgo, .inl (cZ, 8, .inl (fg))), (hfi, .inl (cI, 8, .inl (ff))), (hma, .inl (cI, 8, .inl (fm))), (hln, .inl (cL, 512, .inl (fl))), (hsu, .inl (cI, 512, .inl (fs))), (hrow, .inl (cB, 16384, .inl (fr))), (hmade, .inl (cB, 256, .inl (f))), (hbase, .inl (cB, 256, .inl (fb))), (hbu, .inl (cB, 256, .inl (fbu))), (hau, .inl (cI, 512, .inl (fa))), (htx9, .inl (cB, 256, .inl (ft))), (hot, .inl (cB, 256, .inl (fo))), (hpc, .inl (cB, 600, .inl (fp)))]) [13, 1, 2, 3, 4, 6, 7, 8, 9, 0, 5, 10, 11, 12] rfl) (hD.sub (ws' := [(h0, .inr (7, [.int 0, .int 0, .int (vI σ.go), .ref hbu, .int (nI σ.buf.length), .int (nI σ.nd), .ref hgo, .ref hfi, .ref hma, .ref hln, .ref hau, .ref hsu, .ref hrow, .ref hmade, .int z_madeSize, .ref hbase, .int z_baseSize, .ref htx9, .int z_textSize, .int σ.stp, .ref hot, .int z_otherSize, .ref hpc, .int z_pieceSize, .int z_at, .int z_end, .int z_value])), (hgo, .inl (cZ, 8, .inl (fg))), (hfi, .inl (cI, 8, .inl (ff))), (hma, .inl (cI, 8, .inl (fm))), (hln, .inl (cL, 512, .inl (fl))), (hsu, .inl (cI, 512, .inl (fs))), (hrow, .inl (cB, 16384, .inl (fr))), (hmade, .inl (cB, 256, .inl (f))), (hbase, .inl (cB, 256, .inl (fb))), (hbu, .inl (cB, 256, .inl (fbu))), (hau, .inl (cI, 512, .inl (fa))), (htx9, .inl (cB, 256, .inl (ft))), (hot, .inl (cB, 256, .inl (fo))), (hpc, .inl (cB, 600, .inl (fp)))]) [13, 1, 2, 3, 4, 6, 7, 8, 9, 0, 5, 10, 11, 12] (by decide) rfl) hS ls (lv_sub hl [0, 1, 2] rfl)
      · replace hP : va_P (dC, dI) vwCl [(h0, .inr (7, [.int 0, .int 0, .int (vI σ.go), .ref hbu, .int (nI σ.buf.length), .int (nI σ.nd), .ref hgo, .ref hfi, .ref hma, .ref hln, .ref hau, .ref hsu, .ref hrow, .ref hmade8, .int mz8, .ref hbase8, .int bz8, .ref htx9, .int z_textSize, .int σ.stp, .ref hot, .int z_otherSize, .ref hpc, .int z_pieceSize, .int at08, .int en08, .int vv08])), (hgo, .inl (cZ, 8, .inl (fg))), (hfi, .inl (cI, 8, .inl (ff))), (hma, .inl (cI, 8, .inl (fm))), (hln, .inl (cL, 512, .inl (fl))), (hsu, .inl (cI, 512, .inl (fs))), (hrow, .inl (cB, 16384, .inl (fr))), (hmade8, .inl (cB, 256, .inl (f8))), (hbase8, .inl (cB, 256, .inl (fb8))), (hbu, .inl (cB, 256, .inl (fbu))), (hau, .inl (cI, 512, .inl (fa))), (htx9, .inl (cB, 256, .inl (ft))), (hot, .inl (cB, 256, .inl (fo))), (hpc, .inl (cB, 600, .inl (fp)))] H := hP
        replace hD : va_D A [(h0, .inr (7, [.int 0, .int 0, .int (vI σ.go), .ref hbu, .int (nI σ.buf.length), .int (nI σ.nd), .ref hgo, .ref hfi, .ref hma, .ref hln, .ref hau, .ref hsu, .ref hrow, .ref hmade8, .int mz8, .ref hbase8, .int bz8, .ref htx9, .int z_textSize, .int σ.stp, .ref hot, .int z_otherSize, .ref hpc, .int z_pieceSize, .int at08, .int en08, .int vv08])), (hgo, .inl (cZ, 8, .inl (fg))), (hfi, .inl (cI, 8, .inl (ff))), (hma, .inl (cI, 8, .inl (fm))), (hln, .inl (cL, 512, .inl (fl))), (hsu, .inl (cI, 512, .inl (fs))), (hrow, .inl (cB, 16384, .inl (fr))), (hmade8, .inl (cB, 256, .inl (f8))), (hbase8, .inl (cB, 256, .inl (fb8))), (hbu, .inl (cB, 256, .inl (fbu))), (hau, .inl (cI, 512, .inl (fa))), (htx9, .inl (cB, 256, .inl (ft))), (hot, .inl (cB, 256, .inl (fo))), (hpc, .inl (cB, 600, .inl (fp)))] := hD
        refine lv_iconst (v := (-1)) hx hb d_O_verify_70 (by decide) ?_
        have hσ : (sVerify σ (nI i)) = (σ, 0, (-1)) := (by unfold sVerify; rw [if_neg (by rw [hdw]; decide), hdg]; show (σ, (0 : Int32), vrf d (d.count - d.first) d.first) = _; rw [vrf_t _ _ (fun t h1 h2 => g0 t h1 (by omega) (by omega))])
        have hP9 := hP.sub (ws' := [(h0, .inr (7, [.int 0, .int 0, .int (vI σ.go), .ref hbu, .int (nI σ.buf.length), .int (nI σ.nd), .ref hgo, .ref hfi, .ref hma, .ref hln, .ref hau, .ref hsu, .ref hrow, .ref hmade8, .int mz8, .ref hbase8, .int bz8, .ref htx9, .int z_textSize, .int σ.stp, .ref hot, .int z_otherSize, .ref hpc, .int z_pieceSize, .int at08, .int en08, .int vv08])), (hbu, .inl (cB, 256, .inl (fbu))), (hgo, .inl (cZ, 8, .inl (fg))), (hfi, .inl (cI, 8, .inl (ff))), (hma, .inl (cI, 8, .inl (fm))), (hln, .inl (cL, 512, .inl (fl))), (hau, .inl (cI, 512, .inl (fa))), (hsu, .inl (cI, 512, .inl (fs))), (hrow, .inl (cB, 16384, .inl (fr))), (hmade8, .inl (cB, 256, .inl (f8))), (hbase8, .inl (cB, 256, .inl (fb8))), (htx9, .inl (cB, 256, .inl (ft))), (hot, .inl (cB, 256, .inl (fo))), (hpc, .inl (cB, 600, .inl (fp)))]) [0, 9, 1, 2, 3, 4, 10, 5, 6, 7, 8, 11, 12, 13] rfl
        have hD9 := hD.sub (ws' := [(h0, .inr (7, [.int 0, .int 0, .int (vI σ.go), .ref hbu, .int (nI σ.buf.length), .int (nI σ.nd), .ref hgo, .ref hfi, .ref hma, .ref hln, .ref hau, .ref hsu, .ref hrow, .ref hmade8, .int mz8, .ref hbase8, .int bz8, .ref htx9, .int z_textSize, .int σ.stp, .ref hot, .int z_otherSize, .ref hpc, .int z_pieceSize, .int at08, .int en08, .int vv08])), (hbu, .inl (cB, 256, .inl (fbu))), (hgo, .inl (cZ, 8, .inl (fg))), (hfi, .inl (cI, 8, .inl (ff))), (hma, .inl (cI, 8, .inl (fm))), (hln, .inl (cL, 512, .inl (fl))), (hau, .inl (cI, 512, .inl (fa))), (hsu, .inl (cI, 512, .inl (fs))), (hrow, .inl (cB, 16384, .inl (fr))), (hmade8, .inl (cB, 256, .inl (f8))), (hbase8, .inl (cB, 256, .inl (fb8))), (htx9, .inl (cB, 256, .inl (ft))), (hot, .inl (cB, 256, .inl (fo))), (hpc, .inl (cB, 600, .inl (fp)))]) [0, 9, 1, 2, 3, 4, 10, 5, 6, 7, 8, 11, 12, 13] (by decide) rfl
        have hK9 := hK.sub (tys' := mT cB cI cL cZ) [0, 1, 2, 3] rfl
        exact W.iret (v := (-1)) hx hb hr (fun t ht hW => ⟨⟨(-1), (), rfl, (fun _ => (congrArg (fun z => z.2.2) hσ).symm), ⟨⟨hbu, hgo, hfi, hma, hln, hau, hsu, hrow, hmade8, hbase8, htx9, hot, hpc, 0, 0, (vI σ.go), (nI σ.buf.length), (nI σ.nd), mz8, bz8, z_textSize, σ.stp, z_otherSize, z_pieceSize, at08, en08, vv08, fbu, fg, ff, fm, fl, fa, fs, fr, f8, fb8, ft, fo, fp⟩, ⟨(by rw [hσ]; exact (mOk.mk hm_dw hm_la hm_sz hm_bf hm_nd hm_gn hm_fm hm_ln hm_rw hm_au hm_tq hm_st)), (congrArg (fun z => z.2.1) hσ).symm⟩, by rw [ht]; exact hP9, va_K.moved hW.alike hK9, hD9⟩⟩, hS.F ht⟩) hS.2.2 d_O_verify_71
      · replace hP : va_P (dC, dI) vwCl [(h0, .inr (7, [.int 0, .int 0, .int (vI σ.go), .ref hbu, .int (nI σ.buf.length), .int (nI σ.nd), .ref hgo, .ref hfi, .ref hma, .ref hln, .ref hau, .ref hsu, .ref hrow, .ref hmade8, .int mz8, .ref hbase8, .int bz8, .ref htx9, .int z_textSize, .int σ.stp, .ref hot, .int z_otherSize, .ref hpc, .int z_pieceSize, .int at08, .int en08, .int vv08])), (hgo, .inl (cZ, 8, .inl (fg))), (hfi, .inl (cI, 8, .inl (ff))), (hma, .inl (cI, 8, .inl (fm))), (hln, .inl (cL, 512, .inl (fl))), (hsu, .inl (cI, 512, .inl (fs))), (hrow, .inl (cB, 16384, .inl (fr))), (hmade8, .inl (cB, 256, .inl (f8))), (hbase8, .inl (cB, 256, .inl (fb8))), (hbu, .inl (cB, 256, .inl (fbu))), (hau, .inl (cI, 512, .inl (fa))), (htx9, .inl (cB, 256, .inl (ft))), (hot, .inl (cB, 256, .inl (fo))), (hpc, .inl (cB, 600, .inl (fp)))] H := hP
        replace hD : va_D A [(h0, .inr (7, [.int 0, .int 0, .int (vI σ.go), .ref hbu, .int (nI σ.buf.length), .int (nI σ.nd), .ref hgo, .ref hfi, .ref hma, .ref hln, .ref hau, .ref hsu, .ref hrow, .ref hmade8, .int mz8, .ref hbase8, .int bz8, .ref htx9, .int z_textSize, .int σ.stp, .ref hot, .int z_otherSize, .ref hpc, .int z_pieceSize, .int at08, .int en08, .int vv08])), (hgo, .inl (cZ, 8, .inl (fg))), (hfi, .inl (cI, 8, .inl (ff))), (hma, .inl (cI, 8, .inl (fm))), (hln, .inl (cL, 512, .inl (fl))), (hsu, .inl (cI, 512, .inl (fs))), (hrow, .inl (cB, 16384, .inl (fr))), (hmade8, .inl (cB, 256, .inl (f8))), (hbase8, .inl (cB, 256, .inl (fb8))), (hbu, .inl (cB, 256, .inl (fbu))), (hau, .inl (cI, 512, .inl (fa))), (htx9, .inl (cB, 256, .inl (ft))), (hot, .inl (cB, 256, .inl (fo))), (hpc, .inl (cB, 600, .inl (fp)))] := hD
        refine lv_iload_n hx hb d_O_verify_62 rfl (lv_at hl 0 rfl) ?_
        have hσ : (sVerify σ (nI i)) = (σ, 0, nI j8) := (by unfold sVerify; rw [if_neg (by rw [hdw]; decide), hdg]; show (σ, (0 : Int32), vrf d (d.count - d.first) d.first) = _; rw [vrf_f _ _ j8 g1 (by omega) (fun t h1 h2 => g0 t h1 h2 (by omega)) g3])
        have hP9 := hP.sub (ws' := [(h0, .inr (7, [.int 0, .int 0, .int (vI σ.go), .ref hbu, .int (nI σ.buf.length), .int (nI σ.nd), .ref hgo, .ref hfi, .ref hma, .ref hln, .ref hau, .ref hsu, .ref hrow, .ref hmade8, .int mz8, .ref hbase8, .int bz8, .ref htx9, .int z_textSize, .int σ.stp, .ref hot, .int z_otherSize, .ref hpc, .int z_pieceSize, .int at08, .int en08, .int vv08])), (hbu, .inl (cB, 256, .inl (fbu))), (hgo, .inl (cZ, 8, .inl (fg))), (hfi, .inl (cI, 8, .inl (ff))), (hma, .inl (cI, 8, .inl (fm))), (hln, .inl (cL, 512, .inl (fl))), (hau, .inl (cI, 512, .inl (fa))), (hsu, .inl (cI, 512, .inl (fs))), (hrow, .inl (cB, 16384, .inl (fr))), (hmade8, .inl (cB, 256, .inl (f8))), (hbase8, .inl (cB, 256, .inl (fb8))), (htx9, .inl (cB, 256, .inl (ft))), (hot, .inl (cB, 256, .inl (fo))), (hpc, .inl (cB, 600, .inl (fp)))]) [0, 9, 1, 2, 3, 4, 10, 5, 6, 7, 8, 11, 12, 13] rfl
        have hD9 := hD.sub (ws' := [(h0, .inr (7, [.int 0, .int 0, .int (vI σ.go), .ref hbu, .int (nI σ.buf.length), .int (nI σ.nd), .ref hgo, .ref hfi, .ref hma, .ref hln, .ref hau, .ref hsu, .ref hrow, .ref hmade8, .int mz8, .ref hbase8, .int bz8, .ref htx9, .int z_textSize, .int σ.stp, .ref hot, .int z_otherSize, .ref hpc, .int z_pieceSize, .int at08, .int en08, .int vv08])), (hbu, .inl (cB, 256, .inl (fbu))), (hgo, .inl (cZ, 8, .inl (fg))), (hfi, .inl (cI, 8, .inl (ff))), (hma, .inl (cI, 8, .inl (fm))), (hln, .inl (cL, 512, .inl (fl))), (hau, .inl (cI, 512, .inl (fa))), (hsu, .inl (cI, 512, .inl (fs))), (hrow, .inl (cB, 16384, .inl (fr))), (hmade8, .inl (cB, 256, .inl (f8))), (hbase8, .inl (cB, 256, .inl (fb8))), (htx9, .inl (cB, 256, .inl (ft))), (hot, .inl (cB, 256, .inl (fo))), (hpc, .inl (cB, 600, .inl (fp)))]) [0, 9, 1, 2, 3, 4, 10, 5, 6, 7, 8, 11, 12, 13] (by decide) rfl
        have hK9 := hK.sub (tys' := mT cB cI cL cZ) [0, 1, 2, 3] rfl
        exact W.iret (v := (nI j8)) hx hb hr (fun t ht hW => ⟨⟨(nI j8), (), rfl, (fun _ => (congrArg (fun z => z.2.2) hσ).symm), ⟨⟨hbu, hgo, hfi, hma, hln, hau, hsu, hrow, hmade8, hbase8, htx9, hot, hpc, 0, 0, (vI σ.go), (nI σ.buf.length), (nI σ.nd), mz8, bz8, z_textSize, σ.stp, z_otherSize, z_pieceSize, at08, en08, vv08, fbu, fg, ff, fm, fl, fa, fs, fr, f8, fb8, ft, fo, fp⟩, ⟨(by rw [hσ]; exact (mOk.mk hm_dw hm_la hm_sz hm_bf hm_nd hm_gn hm_fm hm_ln hm_rw hm_au hm_tq hm_st)), (congrArg (fun z => z.2.1) hσ).symm⟩, by rw [ht]; exact hP9, va_K.moved hW.alike hK9, hD9⟩⟩, hS.F ht⟩) hS.2.2 d_O_verify_63
  · obtain rfl : z_down = 1 := (by have h9 := hm_dw; rw [hdw] at h9; exact h9)
    refine lv_aload_n hx hb d_O_verify_0 rfl (lv_at hl 0 rfl) ?_
    refine lv_iconst (v := 1) hx hb d_O_verify_1 (by decide) ?_
    have hPc := hP.sub (ws' := [(h0, .inr (7, [.int z_thrown, .int 1, .int (vI σ.go), .ref hbu, .int (nI σ.buf.length), .int (nI σ.nd), .ref hgo, .ref hfi, .ref hma, .ref hln, .ref hau, .ref hsu, .ref hrow, .ref hmade, .int z_madeSize, .ref hbase, .int z_baseSize, .ref htx9, .int z_textSize, .int σ.stp, .ref hot, .int z_otherSize, .ref hpc, .int z_pieceSize, .int z_at, .int z_end, .int z_value]))]) [0] rfl
    have hKc := hK.sub (tys' := []) [] rfl
    have hDc := hD.sub (ws' := [(h0, .inr (7, [.int z_thrown, .int 1, .int (vI σ.go), .ref hbu, .int (nI σ.buf.length), .int (nI σ.nd), .ref hgo, .ref hfi, .ref hma, .ref hln, .ref hau, .ref hsu, .ref hrow, .ref hmade, .int z_madeSize, .ref hbase, .int z_baseSize, .ref htx9, .int z_textSize, .int σ.stp, .ref hot, .int z_otherSize, .ref hpc, .int z_pieceSize, .int z_at, .int z_end, .int z_value]))]) [0] (by decide) rfl
    have hFc := va_free (wc := [(h0, .inr (7, [.int z_thrown, .int 1, .int (vI σ.go), .ref hbu, .int (nI σ.buf.length), .int (nI σ.nd), .ref hgo, .ref hfi, .ref hma, .ref hln, .ref hau, .ref hsu, .ref hrow, .ref hmade, .int z_madeSize, .ref hbase, .int z_baseSize, .ref htx9, .int z_textSize, .int σ.stp, .ref hot, .int z_otherSize, .ref hpc, .int z_pieceSize, .int z_at, .int z_end, .int z_value]))]) hD hS hA [0] rfl
    refine va_calli (va_runV (As := [.int 1]) (rest := []) ⟨hx, hb, hml, hown, hw0⟩ (o_runs_D l dC dI s.heap.size h0 z_thrown (vI σ.go) (.ref hbu) (nI σ.buf.length) (nI σ.nd) (.ref hgo) (.ref hfi) (.ref hma) (.ref hln) (.ref hau) (.ref hsu) (.ref hrow) (.ref hmade) z_madeSize (.ref hbase) z_baseSize (.ref htx9) z_textSize σ.stp (.ref hot) z_otherSize (.ref hpc) z_pieceSize z_at z_end z_value 1) (cwV 1 hw0 (gd_V 276 277 278 161 279 rfl rfl rfl rfl rfl) rfl rfl rfl (by decide +kernel) ⟨by decide +kernel, by decide +kernel⟩) (prV_E hPc hKc hDc hN (va_recv hKc hPc (ci := 7) (q0 := 0) rfl rfl)) rfl rfl hl.1 rfl (lv_room (Nat.le_of_ble_eq_true rfl)) d_O_verify_2 ⟨by decide +kernel, by decide +kernel⟩) hS (fun q _ h => hFc q h) hFc (fun r_67 u t H1 locs ht hvm hw hB hz1 hk1 hS => ?_)
    obtain ⟨hP1, hK1, hD1⟩ := hB
    rw [ht] at hP1
    have hK1 := va_K.moved hvm.symm hK1
    try dsimp only at hw
    obtain ⟨hP, hD⟩ := va_join (wr := [(hbu, .inl (cB, 256, .inl (fbu))), (hgo, .inl (cZ, 8, .inl (fg))), (hfi, .inl (cI, 8, .inl (ff))), (hma, .inl (cI, 8, .inl (fm))), (hln, .inl (cL, 512, .inl (fl))), (hau, .inl (cI, 512, .inl (fa))), (hsu, .inl (cI, 512, .inl (fs))), (hrow, .inl (cB, 16384, .inl (fr))), (hmade, .inl (cB, 256, .inl (f))), (hbase, .inl (cB, 256, .inl (fb))), (htx9, .inl (cB, 256, .inl (ft))), (hot, .inl (cB, 256, .inl (fo))), (hpc, .inl (cB, 600, .inl (fp)))]) (w1 := [(h0, .inr (7, [.int 1, .int 1, .int (vI σ.go), .ref hbu, .int (nI σ.buf.length), .int (nI σ.nd), .ref hgo, .ref hfi, .ref hma, .ref hln, .ref hau, .ref hsu, .ref hrow, .ref hmade, .int z_madeSize, .ref hbase, .int z_baseSize, .ref htx9, .int z_textSize, .int σ.stp, .ref hot, .int z_otherSize, .ref hpc, .int z_pieceSize, .int z_at, .int z_end, .int z_value]))]) hP hD [0] [1, 2, 3, 4, 5, 6, 7, 8, 9, 10, 11, 12, 13] rfl rfl (by decide) (by decide) hk1 hFc hP1 hD1
    generalize H1 = H at hP hS ⊢
    replace hP : va_P (dC, dI) vwCl [(hbu, .inl (cB, 256, .inl (fbu))), (hgo, .inl (cZ, 8, .inl (fg))), (hfi, .inl (cI, 8, .inl (ff))), (hma, .inl (cI, 8, .inl (fm))), (hln, .inl (cL, 512, .inl (fl))), (hau, .inl (cI, 512, .inl (fa))), (hsu, .inl (cI, 512, .inl (fs))), (hrow, .inl (cB, 16384, .inl (fr))), (hmade, .inl (cB, 256, .inl (f))), (hbase, .inl (cB, 256, .inl (fb))), (htx9, .inl (cB, 256, .inl (ft))), (hot, .inl (cB, 256, .inl (fo))), (hpc, .inl (cB, 600, .inl (fp))), (h0, .inr (7, [.int 1, .int 1, .int (vI σ.go), .ref hbu, .int (nI σ.buf.length), .int (nI σ.nd), .ref hgo, .ref hfi, .ref hma, .ref hln, .ref hau, .ref hsu, .ref hrow, .ref hmade, .int z_madeSize, .ref hbase, .int z_baseSize, .ref htx9, .int z_textSize, .int σ.stp, .ref hot, .int z_otherSize, .ref hpc, .int z_pieceSize, .int z_at, .int z_end, .int z_value]))] H := hP
    replace hD : va_D A [(hbu, .inl (cB, 256, .inl (fbu))), (hgo, .inl (cZ, 8, .inl (fg))), (hfi, .inl (cI, 8, .inl (ff))), (hma, .inl (cI, 8, .inl (fm))), (hln, .inl (cL, 512, .inl (fl))), (hau, .inl (cI, 512, .inl (fa))), (hsu, .inl (cI, 512, .inl (fs))), (hrow, .inl (cB, 16384, .inl (fr))), (hmade, .inl (cB, 256, .inl (f))), (hbase, .inl (cB, 256, .inl (fb))), (htx9, .inl (cB, 256, .inl (ft))), (hot, .inl (cB, 256, .inl (fo))), (hpc, .inl (cB, 600, .inl (fp))), (h0, .inr (7, [.int 1, .int 1, .int (vI σ.go), .ref hbu, .int (nI σ.buf.length), .int (nI σ.nd), .ref hgo, .ref hfi, .ref hma, .ref hln, .ref hau, .ref hsu, .ref hrow, .ref hmade, .int z_madeSize, .ref hbase, .int z_baseSize, .ref htx9, .int z_textSize, .int σ.stp, .ref hot, .int z_otherSize, .ref hpc, .int z_pieceSize, .int z_at, .int z_end, .int z_value]))] := hD
    replace hK : va_K (dC, dI) vwCl [(cB, .byte), (cI, .int), (cL, .short), (cZ, .boolean)] s := hK
    obtain rfl : r_67 = 0 := hw
    refine lv_if_ne (tgt := 10) hx hb d_O_verify_5 (by decide) (fun h9 => absurd h9 (by decide +kernel)) (fun _ => ?_)
    refine lv_iconst (v := 0) hx hb d_O_verify_8 (by decide) ?_
    have hσ : (sVerify σ a1) = (σ, 1, 0) := (by unfold sVerify; rw [if_pos hdw])
    have hP9 := hP.sub (ws' := [(h0, .inr (7, [.int 1, .int 1, .int (vI σ.go), .ref hbu, .int (nI σ.buf.length), .int (nI σ.nd), .ref hgo, .ref hfi, .ref hma, .ref hln, .ref hau, .ref hsu, .ref hrow, .ref hmade, .int z_madeSize, .ref hbase, .int z_baseSize, .ref htx9, .int z_textSize, .int σ.stp, .ref hot, .int z_otherSize, .ref hpc, .int z_pieceSize, .int z_at, .int z_end, .int z_value])), (hbu, .inl (cB, 256, .inl (fbu))), (hgo, .inl (cZ, 8, .inl (fg))), (hfi, .inl (cI, 8, .inl (ff))), (hma, .inl (cI, 8, .inl (fm))), (hln, .inl (cL, 512, .inl (fl))), (hau, .inl (cI, 512, .inl (fa))), (hsu, .inl (cI, 512, .inl (fs))), (hrow, .inl (cB, 16384, .inl (fr))), (hmade, .inl (cB, 256, .inl (f))), (hbase, .inl (cB, 256, .inl (fb))), (htx9, .inl (cB, 256, .inl (ft))), (hot, .inl (cB, 256, .inl (fo))), (hpc, .inl (cB, 600, .inl (fp)))]) [13, 0, 1, 2, 3, 4, 5, 6, 7, 8, 9, 10, 11, 12] rfl
    have hD9 := hD.sub (ws' := [(h0, .inr (7, [.int 1, .int 1, .int (vI σ.go), .ref hbu, .int (nI σ.buf.length), .int (nI σ.nd), .ref hgo, .ref hfi, .ref hma, .ref hln, .ref hau, .ref hsu, .ref hrow, .ref hmade, .int z_madeSize, .ref hbase, .int z_baseSize, .ref htx9, .int z_textSize, .int σ.stp, .ref hot, .int z_otherSize, .ref hpc, .int z_pieceSize, .int z_at, .int z_end, .int z_value])), (hbu, .inl (cB, 256, .inl (fbu))), (hgo, .inl (cZ, 8, .inl (fg))), (hfi, .inl (cI, 8, .inl (ff))), (hma, .inl (cI, 8, .inl (fm))), (hln, .inl (cL, 512, .inl (fl))), (hau, .inl (cI, 512, .inl (fa))), (hsu, .inl (cI, 512, .inl (fs))), (hrow, .inl (cB, 16384, .inl (fr))), (hmade, .inl (cB, 256, .inl (f))), (hbase, .inl (cB, 256, .inl (fb))), (htx9, .inl (cB, 256, .inl (ft))), (hot, .inl (cB, 256, .inl (fo))), (hpc, .inl (cB, 600, .inl (fp)))]) [13, 0, 1, 2, 3, 4, 5, 6, 7, 8, 9, 10, 11, 12] (by decide) rfl
    have hK9 := hK.sub (tys' := mT cB cI cL cZ) [0, 1, 2, 3] rfl
    exact W.iret (v := 0) hx hb hr (fun t ht hW => ⟨⟨0, (), rfl, (fun _ => (congrArg (fun z => z.2.2) hσ).symm), ⟨⟨hbu, hgo, hfi, hma, hln, hau, hsu, hrow, hmade, hbase, htx9, hot, hpc, 1, 1, (vI σ.go), (nI σ.buf.length), (nI σ.nd), z_madeSize, z_baseSize, z_textSize, σ.stp, z_otherSize, z_pieceSize, z_at, z_end, z_value, fbu, fg, ff, fm, fl, fa, fs, fr, f, fb, ft, fo, fp⟩, ⟨(by rw [hσ]; exact (mOk.mk hm_dw hm_la hm_sz hm_bf hm_nd hm_gn hm_fm hm_ln hm_rw hm_au hm_tq hm_st)), (congrArg (fun z => z.2.1) hσ).symm⟩, by rw [ht]; exact hP9, va_K.moved hW.alike hK9, hD9⟩⟩, hS.F ht⟩) hS.2.2 d_O_verify_9
