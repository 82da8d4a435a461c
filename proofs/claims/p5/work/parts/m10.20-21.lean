section
set_option maxHeartbeats 4000000 in
set_option maxRecDepth 100000 in
theorem u_commit (l : Launch) (dC : Nat → ClassId) (dI : Nat → Nat → Nat) (sz : Nat) (h0 : Nat) (cB cI cL cZ : ClassId) (y : MY) (σ : Sg) (a1 : Int32) (a2 : Int32) (hs : sOk σ) (hm : mOk σ y) : Met l y_O_commit k_O_commit ({ frames := 4, cells := 0, slots := 0, locals := 92 } : Room) (va_Pc [.ref h0, .int a1, .int a2] (pc_E (dC, dI) (mW h0 cB cI cL cZ y) (mT cB cI cL cZ) sz)) (va_Qi (fun (r : Int32) (_ : Unit) => (sCommit σ a1 a2).2.1 = 0 → r = (sCommit σ a1 a2).2.2) (fun (_ : Unit) t => ∃ y2 : MY, (mOk (sCommit σ a1 a2).1 y2 ∧ y2.z_thrown = (sCommit σ a1 a2).2.1) ∧ at_E (dC, dI) (va_A (mW h0 cB cI cL cZ y) sz) (mW h0 cB cI cL cZ y2) (mT cB cI cL cZ) t) (va_A (mW h0 cB cI cL cZ y) sz)) 0 0 (va_A (mW h0 cB cI cL cZ y) sz) := by
  obtain ⟨hbu, hgo, hfi, hma, hln, hau, hsu, hrow, hmade, hbase, htx9, hot, hpc, z_thrown, z_down, z_lasts, z_size, z_documents, z_madeSize, z_baseSize, z_textSize, z_textSteps, z_otherSize, z_pieceSize, z_at, z_end, z_value, fbu, fg, ff, fm, fl, fa, fs, fr, f, fb, ft, fo, fp⟩ := y
  have hm_dw : z_down = bI σ.down := hm.dw
  have hm_la : z_lasts = vI σ.go := hm.la
  have hm_sz : z_size = nI σ.buf.length := hm.sz
  have hm_bf : tx σ.buf σ.buf.length fbu := hm.bf
  have hm_nd : z_documents = nI σ.nd := hm.nd
  have hm_gn : ∀ i, i < 8 → ((∃ d, σ.ds i = some d) → fg i = 0) ∧ (i < σ.nd → σ.ds i = none → ¬ fg i = 0) ∧ (σ.nd ≤ i → fg i = 0) := hm.gn
  have hm_fm : ∀ i, i < 8 → (∀ d, σ.ds i = some d → ff i = nI d.first ∧ fm i = nI d.count) ∧ (σ.nd ≤ i → ff i = 0 ∧ fm i = 0) := hm.fm
  have hm_ln : ∀ j, j < 512 → fl j = vI (lnq (pqS σ.ds) j) := hm.ln
  have hm_rw : rowOk (pqS σ.ds) fr := hm.rw
  have hm_au : ∀ i j d r, i < 8 → j < 64 → σ.ds i = some d → d.rv j = some r → fa (64 * i + j) = r.au ∧ fs (64 * i + j) = r.sm := hm.au
  have hm_tq : (z_textSize = nI σ.fet.length ∧ tx σ.fet σ.fet.length ft) ∨ (z_textSize = (-1) ∧ σ.fet = []) := hm.tq
  have hm_st : z_textSteps = σ.stp := hm.st
  clear hm
  obtain rfl : z_size = _ := hm_sz
  obtain rfl : z_lasts = _ := hm_la
  obtain rfl : z_documents = _ := hm_nd
  obtain rfl : z_textSteps = _ := hm_st
  have hm_sz : nI σ.buf.length = nI σ.buf.length := rfl
  have hm_la : vI σ.go = vI σ.go := rfl
  have hm_nd : nI σ.nd = nI σ.nd := rfl
  have hm_st : σ.stp = σ.stp := rfl
  have hml0 := hs.buf.1
  have hnd8 := hs.nd
  have hfl : ∀ j, j < 512 → fl j = vI (lnq (pqS σ.ds) j) := hm_ln
  have hrw : rowOk (pqS σ.ds) fr := hm_rw
  have hbd := row_bd hrw
  refine Met.ofW (cc := prog_9_method_27_code) (maxL := 7) (ret := (some .int)) (by decide) rfl ?_
  intro p e s m args below meth c s₁ B hml hv
  obtain ⟨rfl, hsz, hP, hK, hD0, hN⟩ := hv
  have hx := B.exec
  have hb := B.bytes
  have hr := B.returns
  have hts := atoms_spec (ws := k_O_commit) B.pre
  have hw0 : ∀ w ∈ w0, w.before _ s = true := fun w h => hts w (List.mem_cons_of_mem _ h)
  have hown : s.vm.findClass R_O = some m.cls := findClass_of_methodNamed B.named
  have hlocks := B.notSynchronized
  subst hsz
  have hD := hD0.self (sz := s.heap.size)
  generalize hAe : va_A (mW h0 cB cI cL cZ _) s.heap.size = A at hD ⊢
  have hA : ∀ q : Nat, s.heap.size ≤ q → A q := fun q h => by rw [← hAe]; exact Or.inr h
  clear hAe hD0
  have hS : va_S A s.heap s.heap [] := va_S.rf
  replace hP : va_P (dC, dI) vwCl [(h0, .inr (7, [.int z_thrown, .int z_down, .int (vI σ.go), .ref hbu, .int (nI σ.buf.length), .int (nI σ.nd), .ref hgo, .ref hfi, .ref hma, .ref hln, .ref hau, .ref hsu, .ref hrow, .ref hmade, .int z_madeSize, .ref hbase, .int z_baseSize, .ref htx9, .int z_textSize, .int σ.stp, .ref hot, .int z_otherSize, .ref hpc, .int z_pieceSize, .int z_at, .int z_end, .int z_value])), (hbu, .inl (cB, 256, .inl (fbu))), (hgo, .inl (cZ, 8, .inl (fg))), (hfi, .inl (cI, 8, .inl (ff))), (hma, .inl (cI, 8, .inl (fm))), (hln, .inl (cL, 512, .inl (fl))), (hau, .inl (cI, 512, .inl (fa))), (hsu, .inl (cI, 512, .inl (fs))), (hrow, .inl (cB, 16384, .inl (fr))), (hmade, .inl (cB, 256, .inl (f))), (hbase, .inl (cB, 256, .inl (fb))), (htx9, .inl (cB, 256, .inl (ft))), (hot, .inl (cB, 256, .inl (fo))), (hpc, .inl (cB, 600, .inl (fp)))] s.heap := hP
  replace hD : va_D A [(h0, .inr (7, [.int z_thrown, .int z_down, .int (vI σ.go), .ref hbu, .int (nI σ.buf.length), .int (nI σ.nd), .ref hgo, .ref hfi, .ref hma, .ref hln, .ref hau, .ref hsu, .ref hrow, .ref hmade, .int z_madeSize, .ref hbase, .int z_baseSize, .ref htx9, .int z_textSize, .int σ.stp, .ref hot, .int z_otherSize, .ref hpc, .int z_pieceSize, .int z_at, .int z_end, .int z_value])), (hbu, .inl (cB, 256, .inl (fbu))), (hgo, .inl (cZ, 8, .inl (fg))), (hfi, .inl (cI, 8, .inl (ff))), (hma, .inl (cI, 8, .inl (fm))), (hln, .inl (cL, 512, .inl (fl))), (hau, .inl (cI, 512, .inl (fa))), (hsu, .inl (cI, 512, .inl (fs))), (hrow, .inl (cB, 16384, .inl (fr))), (hmade, .inl (cB, 256, .inl (f))), (hbase, .inl (cB, 256, .inl (fb))), (htx9, .inl (cB, 256, .inl (ft))), (hot, .inl (cB, 256, .inl (fo))), (hpc, .inl (cB, 600, .inl (fp)))] := hD
  have hl := lv_entry ([.ref h0, .int a1, .int a2]) (n := 7) (Nat.le_of_ble_eq_true rfl)
  rw [lg_entry_eq]
  generalize (lg_sl ([.ref h0, .int a1, .int a2]) ++ List.replicate (7 - (lg_sl ([.ref h0, .int a1, .int a2])).length) Slot.unset).toArray = ls at hl ⊢
  have hl : lv_has ls 7 [(0, .ref h0), (1, .int a1), (2, .int a2)] := hl
  rcases hdw : σ.down with _ | _
  · obtain rfl : z_down = 0 := (by have h9 := hm_dw; rw [hdw] at h9; exact h9)
    refine lv_aload_n hx hb d_O_commit_0 rfl (lv_at hl 0 rfl) ?_
    refine lv_iconst (v := 1) hx hb d_O_commit_1 (by decide) ?_
    have hPc := hP.sub (ws' := [(h0, .inr (7, [.int z_thrown, .int 0, .int (vI σ.go), .ref hbu, .int (nI σ.buf.length), .int (nI σ.nd), .ref hgo, .ref hfi, .ref hma, .ref hln, .ref hau, .ref hsu, .ref hrow, .ref hmade, .int z_madeSize, .ref hbase, .int z_baseSize, .ref htx9, .int z_textSize, .int σ.stp, .ref hot, .int z_otherSize, .ref hpc, .int z_pieceSize, .int z_at, .int z_end, .int z_value]))]) [0] rfl
    have hKc := hK.sub (tys' := []) [] rfl
    have hDc := hD.sub (ws' := [(h0, .inr (7, [.int z_thrown, .int 0, .int (vI σ.go), .ref hbu, .int (nI σ.buf.length), .int (nI σ.nd), .ref hgo, .ref hfi, .ref hma, .ref hln, .ref hau, .ref hsu, .ref hrow, .ref hmade, .int z_madeSize, .ref hbase, .int z_baseSize, .ref htx9, .int z_textSize, .int σ.stp, .ref hot, .int z_otherSize, .ref hpc, .int z_pieceSize, .int z_at, .int z_end, .int z_value]))]) [0] (by decide) rfl
    have hFc := va_free (wc := [(h0, .inr (7, [.int z_thrown, .int 0, .int (vI σ.go), .ref hbu, .int (nI σ.buf.length), .int (nI σ.nd), .ref hgo, .ref hfi, .ref hma, .ref hln, .ref hau, .ref hsu, .ref hrow, .ref hmade, .int z_madeSize, .ref hbase, .int z_baseSize, .ref htx9, .int z_textSize, .int σ.stp, .ref hot, .int z_otherSize, .ref hpc, .int z_pieceSize, .int z_at, .int z_end, .int z_value]))]) hD hS hA [0] rfl
    refine va_calli (va_runV (As := [.int 1]) (rest := []) ⟨hx, hb, hml, hown, hw0⟩ (o_runs_U l dC dI s.heap.size h0 z_thrown (vI σ.go) (.ref hbu) (nI σ.buf.length) (nI σ.nd) (.ref hgo) (.ref hfi) (.ref hma) (.ref hln) (.ref hau) (.ref hsu) (.ref hrow) (.ref hmade) z_madeSize (.ref hbase) z_baseSize (.ref htx9) z_textSize σ.stp (.ref hot) z_otherSize (.ref hpc) z_pieceSize z_at z_end z_value 1) (cwV 1 hw0 (gd_Vm wm_358 wm_359 wm_360 wm_243 wm_361) rfl rfl rfl (by decide +kernel) ⟨by decide +kernel, by decide +kernel⟩) (prV_E hPc hKc hDc hN (va_recv hKc hPc (ci := 7) (q0 := 0) rfl rfl)) rfl rfl hl.1 rfl (lv_room (Nat.le_of_ble_eq_true rfl)) d_O_commit_2 ⟨by decide +kernel, by decide +kernel⟩) hS (fun q _ h => hFc q h) hFc (fun r_1 u t H1 locs ht hvm hw hB hz1 hk1 hS => ?_)
    obtain ⟨hP1, hK1, hD1⟩ := hB
    rw [ht] at hP1
    have hK1 := va_K.moved hvm.symm hK1
    try dsimp only at hw
    obtain ⟨hP, hD⟩ := va_join (wr := [(hbu, .inl (cB, 256, .inl (fbu))), (hgo, .inl (cZ, 8, .inl (fg))), (hfi, .inl (cI, 8, .inl (ff))), (hma, .inl (cI, 8, .inl (fm))), (hln, .inl (cL, 512, .inl (fl))), (hau, .inl (cI, 512, .inl (fa))), (hsu, .inl (cI, 512, .inl (fs))), (hrow, .inl (cB, 16384, .inl (fr))), (hmade, .inl (cB, 256, .inl (f))), (hbase, .inl (cB, 256, .inl (fb))), (htx9, .inl (cB, 256, .inl (ft))), (hot, .inl (cB, 256, .inl (fo))), (hpc, .inl (cB, 600, .inl (fp)))]) (w1 := [(h0, .inr (7, [.int 0, .int 0, .int (vI σ.go), .ref hbu, .int (nI σ.buf.length), .int (nI σ.nd), .ref hgo, .ref hfi, .ref hma, .ref hln, .ref hau, .ref hsu, .ref hrow, .ref hmade, .int z_madeSize, .ref hbase, .int z_baseSize, .ref htx9, .int z_textSize, .int σ.stp, .ref hot, .int z_otherSize, .ref hpc, .int z_pieceSize, .int z_at, .int z_end, .int z_value]))]) hP hD [0] [1, 2, 3, 4, 5, 6, 7, 8, 9, 10, 11, 12, 13] rfl rfl (by decide) (by decide) hk1 hFc hP1 hD1
    generalize H1 = H at hP hS ⊢
    replace hP : va_P (dC, dI) vwCl [(hbu, .inl (cB, 256, .inl (fbu))), (hgo, .inl (cZ, 8, .inl (fg))), (hfi, .inl (cI, 8, .inl (ff))), (hma, .inl (cI, 8, .inl (fm))), (hln, .inl (cL, 512, .inl (fl))), (hau, .inl (cI, 512, .inl (fa))), (hsu, .inl (cI, 512, .inl (fs))), (hrow, .inl (cB, 16384, .inl (fr))), (hmade, .inl (cB, 256, .inl (f))), (hbase, .inl (cB, 256, .inl (fb))), (htx9, .inl (cB, 256, .inl (ft))), (hot, .inl (cB, 256, .inl (fo))), (hpc, .inl (cB, 600, .inl (fp))), (h0, .inr (7, [.int 0, .int 0, .int (vI σ.go), .ref hbu, .int (nI σ.buf.length), .int (nI σ.nd), .ref hgo, .ref hfi, .ref hma, .ref hln, .ref hau, .ref hsu, .ref hrow, .ref hmade, .int z_madeSize, .ref hbase, .int z_baseSize, .ref htx9, .int z_textSize, .int σ.stp, .ref hot, .int z_otherSize, .ref hpc, .int z_pieceSize, .int z_at, .int z_end, .int z_value]))] H := hP
    replace hD : va_D A [(hbu, .inl (cB, 256, .inl (fbu))), (hgo, .inl (cZ, 8, .inl (fg))), (hfi, .inl (cI, 8, .inl (ff))), (hma, .inl (cI, 8, .inl (fm))), (hln, .inl (cL, 512, .inl (fl))), (hau, .inl (cI, 512, .inl (fa))), (hsu, .inl (cI, 512, .inl (fs))), (hrow, .inl (cB, 16384, .inl (fr))), (hmade, .inl (cB, 256, .inl (f))), (hbase, .inl (cB, 256, .inl (fb))), (htx9, .inl (cB, 256, .inl (ft))), (hot, .inl (cB, 256, .inl (fo))), (hpc, .inl (cB, 600, .inl (fp))), (h0, .inr (7, [.int 0, .int 0, .int (vI σ.go), .ref hbu, .int (nI σ.buf.length), .int (nI σ.nd), .ref hgo, .ref hfi, .ref hma, .ref hln, .ref hau, .ref hsu, .ref hrow, .ref hmade, .int z_madeSize, .ref hbase, .int z_baseSize, .ref htx9, .int z_textSize, .int σ.stp, .ref hot, .int z_otherSize, .ref hpc, .int z_pieceSize, .int z_at, .int z_end, .int z_value]))] := hD
    replace hK : va_K (dC, dI) vwCl [(cB, .byte), (cI, .int), (cL, .short), (cZ, .boolean)] s := hK
    obtain rfl : r_1 = 1 := hw
    refine lv_if_eq (tgt := 27) hx hb d_O_commit_5 (by decide) (fun h9 => absurd h9 (by decide +kernel)) (fun _ => ?_)
    rcases hdg : dGet σ.ds a1 with _ | ⟨i, d⟩
    · have hF := no_doc hs.nd hm_gn hdg
      refine lv_aload_n hx hb d_O_commit_8 rfl (lv_at hl 0 rfl) ?_
      refine lv_iload_n hx hb d_O_commit_9 rfl (lv_at hl 1 rfl) ?_
      have hPc := hP.sub (ws' := [(h0, .inr (7, [.int 0, .int 0, .int (vI σ.go), .ref hbu, .int (nI σ.buf.length), .int (nI σ.nd), .ref hgo, .ref hfi, .ref hma, .ref hln, .ref hau, .ref hsu, .ref hrow, .ref hmade, .int z_madeSize, .ref hbase, .int z_baseSize, .ref htx9, .int z_textSize, .int σ.stp, .ref hot, .int z_otherSize, .ref hpc, .int z_pieceSize, .int z_at, .int z_end, .int z_value])), (hgo, .inl (cZ, 8, .inl ((fg))))]) [13, 1] rfl
      have hKc := hK.sub (tys' := [(cZ, .boolean)]) [3] rfl
      refine ps_i (va_runV (As := [.int a1]) (rest := []) ⟨hx, hb, hml, hown, hw0⟩ (o_isDoc_F l dC dI h0 0 0 (vI σ.go) (.ref hbu) (nI σ.buf.length) (.ref hfi) (.ref hma) (.ref hln) (.ref hau) (.ref hsu) (.ref hrow) (.ref hmade) z_madeSize (.ref hbase) z_baseSize (.ref htx9) z_textSize σ.stp (.ref hot) z_otherSize (.ref hpc) z_pieceSize z_at z_end z_value σ.nd hgo cZ (fg) a1 (by first | assumption | decide | omega) (by first | assumption | decide | omega)) (cwV 1 hw0 (gd_Vm wm_334 wm_335 wm_336 wm_243 wm_337) rfl rfl rfl (by decide +kernel) ⟨by decide +kernel, by decide +kernel⟩) (prV_R hPc hKc hN (va_recv hKc hPc (ci := 7) (q0 := 0) rfl rfl)) rfl rfl hl.1 rfl (lv_room (Nat.le_of_ble_eq_true rfl)) d_O_commit_10 ⟨by decide +kernel, by decide +kernel⟩) (fun r_3 hr_3 => ?_)
      obtain rfl : r_3 = 0 := hr_3
      refine lv_if_eq (tgt := 27) hx hb d_O_commit_13 (by decide) (fun _ => ?_) (fun h9 => absurd h9 (by decide +kernel))
      refine lv_aload_n hx hb d_O_commit_27 rfl (lv_at hl 0 rfl) ?_
      refine va_get (D := (dC, dI)) (ci := 7) (v := .int 0) (C := R_O) (T := F_O) (N := 27) hx hb hw0 in_O hown hK hP 13 rfl rfl 0 (by decide) (hw0 (.fieldLink R_O 62 "TextKeeperModel" "thrown" "I") wm_330) (fun _ h9 => h9) rfl d_O_commit_28 ?_
      refine lv_if_ne (tgt := 38) hx hb d_O_commit_31 (by decide) (fun h9 => absurd h9 (by decide +kernel)) (fun _ => ?_)
      refine lv_iconst (v := (-1)) hx hb d_O_commit_34 (by decide) ?_
      refine lv_goto (tgt := 39) hx hb d_O_commit_35 (by decide) ?_
      have hσ : (sCommit σ a1 a2) = (σ, 0, (-1)) := (by unfold sCommit; rw [if_neg (by rw [hdw]; decide), hdg])
      have hP9 := hP.sub (ws' := [(h0, .inr (7, [.int 0, .int 0, .int (vI σ.go), .ref hbu, .int (nI σ.buf.length), .int (nI σ.nd), .ref hgo, .ref hfi, .ref hma, .ref hln, .ref hau, .ref hsu, .ref hrow, .ref hmade, .int z_madeSize, .ref hbase, .int z_baseSize, .ref htx9, .int z_textSize, .int σ.stp, .ref hot, .int z_otherSize, .ref hpc, .int z_pieceSize, .int z_at, .int z_end, .int z_value])), (hbu, .inl (cB, 256, .inl (fbu))), (hgo, .inl (cZ, 8, .inl (fg))), (hfi, .inl (cI, 8, .inl (ff))), (hma, .inl (cI, 8, .inl (fm))), (hln, .inl (cL, 512, .inl (fl))), (hau, .inl (cI, 512, .inl (fa))), (hsu, .inl (cI, 512, .inl (fs))), (hrow, .inl (cB, 16384, .inl (fr))), (hmade, .inl (cB, 256, .inl (f))), (hbase, .inl (cB, 256, .inl (fb))), (htx9, .inl (cB, 256, .inl (ft))), (hot, .inl (cB, 256, .inl (fo))), (hpc, .inl (cB, 600, .inl (fp)))]) [13, 0, 1, 2, 3, 4, 5, 6, 7, 8, 9, 10, 11, 12] rfl
      have hD9 := hD.sub (ws' := [(h0, .inr (7, [.int 0, .int 0, .int (vI σ.go), .ref hbu, .int (nI σ.buf.length), .int (nI σ.nd), .ref hgo, .ref hfi, .ref hma, .ref hln, .ref hau, .ref hsu, .ref hrow, .ref hmade, .int z_madeSize, .ref hbase, .int z_baseSize, .ref htx9, .int z_textSize, .int σ.stp, .ref hot, .int z_otherSize, .ref hpc, .int z_pieceSize, .int z_at, .int z_end, .int z_value])), (hbu, .inl (cB, 256, .inl (fbu))), (hgo, .inl (cZ, 8, .inl (fg))), (hfi, .inl (cI, 8, .inl (ff))), (hma, .inl (cI, 8, .inl (fm))), (hln, .inl (cL, 512, .inl (fl))), (hau, .inl (cI, 512, .inl (fa))), (hsu, .inl (cI, 512, .inl (fs))), (hrow, .inl (cB, 16384, .inl (fr))), (hmade, .inl (cB, 256, .inl (f))), (hbase, .inl (cB, 256, .inl (fb))), (htx9, .inl (cB, 256, .inl (ft))), (hot, .inl (cB, 256, .inl (fo))), (hpc, .inl (cB, 600, .inl (fp)))]) [13, 0, 1, 2, 3, 4, 5, 6, 7, 8, 9, 10, 11, 12] (by decide) rfl
      have hK9 := hK.sub (tys' := mT cB cI cL cZ) [0, 1, 2, 3] rfl
      exact W.iret (v := (-1)) hx hb hr (fun t ht hW => ⟨⟨(-1), (), rfl, (fun _ => (congrArg (fun z => z.2.2) hσ).symm), ⟨⟨hbu, hgo, hfi, hma, hln, hau, hsu, hrow, hmade, hbase, htx9, hot, hpc, 0, 0, (vI σ.go), (nI σ.buf.length), (nI σ.nd), z_madeSize, z_baseSize, z_textSize, σ.stp, z_otherSize, z_pieceSize, z_at, z_end, z_value, fbu, fg, ff, fm, fl, fa, fs, fr, f, fb, ft, fo, fp⟩, ⟨(by rw [hσ]; exact (mOk.mk hm_dw hm_la hm_sz hm_bf hm_nd hm_gn hm_fm hm_ln hm_rw hm_au hm_tq hm_st)), (congrArg (fun z => z.2.1) hσ).symm⟩, by rw [ht]; exact hP9, va_K.moved hW.alike hK9, hD9⟩⟩, hS.F ht⟩) hS.2.2 d_O_commit_39
    · obtain ⟨hi8, rfl, hdi⟩ := dGet_some hdg
      have hdk := hs.ds _ _ hdi
      have hd9 : i < σ.nd := hdk.1
      have hgn : fg i = 0 := (hm_gn i hi8).1 ⟨d, hdi⟩
      have hff : ff i = nI d.first := ((hm_fm i hi8).1 d hdi).1
      have hfm : fm i = nI d.count := ((hm_fm i hi8).1 d hdi).2
      have hdn : d.count ≤ 64 := hdk.2.2.1
      have hfd : d.first ≤ d.count := hdk.2.1
      refine lv_aload_n hx hb d_O_commit_8 rfl (lv_at hl 0 rfl) ?_
      refine lv_iload_n hx hb d_O_commit_9 rfl (lv_at hl 1 rfl) ?_
      have hPc := hP.sub (ws' := [(h0, .inr (7, [.int 0, .int 0, .int (vI σ.go), .ref hbu, .int (nI σ.buf.length), .int (nI σ.nd), .ref hgo, .ref hfi, .ref hma, .ref hln, .ref hau, .ref hsu, .ref hrow, .ref hmade, .int z_madeSize, .ref hbase, .int z_baseSize, .ref htx9, .int z_textSize, .int σ.stp, .ref hot, .int z_otherSize, .ref hpc, .int z_pieceSize, .int z_at, .int z_end, .int z_value])), (hgo, .inl (cZ, 8, .inl ((fg))))]) [13, 1] rfl
      have hKc := hK.sub (tys' := [(cZ, .boolean)]) [3] rfl
      refine ps_i (va_runV (As := [.int (nI i)]) (rest := []) ⟨hx, hb, hml, hown, hw0⟩ (o_isDoc_T l dC dI h0 0 0 (vI σ.go) (.ref hbu) (nI σ.buf.length) (.ref hfi) (.ref hma) (.ref hln) (.ref hau) (.ref hsu) (.ref hrow) (.ref hmade) z_madeSize (.ref hbase) z_baseSize (.ref htx9) z_textSize σ.stp (.ref hot) z_otherSize (.ref hpc) z_pieceSize z_at z_end z_value σ.nd hgo cZ (fg) i (by first | assumption | decide | omega) (by first | assumption | decide | omega) (by first | assumption | decide | omega)) (cwV 1 hw0 (gd_Vm wm_334 wm_335 wm_336 wm_243 wm_337) rfl rfl rfl (by decide +kernel) ⟨by decide +kernel, by decide +kernel⟩) (prV_R hPc hKc hN (va_recv hKc hPc (ci := 7) (q0 := 0) rfl rfl)) rfl rfl hl.1 rfl (lv_room (Nat.le_of_ble_eq_true rfl)) d_O_commit_10 ⟨by decide +kernel, by decide +kernel⟩) (fun r_4 hr_4 => ?_)
      obtain rfl : r_4 = 1 := hr_4
      refine lv_if_eq (tgt := 27) hx hb d_O_commit_13 (by decide) (fun h9 => absurd h9 (by decide +kernel)) (fun _ => ?_)
      refine lv_aload_n hx hb d_O_commit_16 rfl (lv_at hl 0 rfl) ?_
      refine va_get (D := (dC, dI)) (ci := 7) (v := .ref hma) (C := R_O) (T := F_O) (N := 27) hx hb hw0 in_O hown hK hP 13 rfl rfl 8 (by decide) (hw0 (.fieldLink R_O 25 "TextKeeperModel" "many" "[I") wm_339) (fun _ h9 => h9) rfl d_O_commit_17 ?_
      refine lv_iload_n hx hb d_O_commit_20 rfl (lv_at hl 1 rfl) ?_
      refine va_iald hx hb hK hP 3 1 rfl rfl (vp_in_nI (by omega) (by decide)) d_O_commit_21 ?_
      refine lv_topi (fun x_5 ex_5 => ?_)
      obtain rfl : x_5 = nI d.count := by rw [ex_5, nI_clamp (by omega), hfm] <;> rfl
      clear ex_5
      refine lv_bipush (v := 64) hx hb d_O_commit_22 (by decide +kernel) ?_
      refine lv_icmp_ne (tgt := 40) hx hb d_O_commit_24 (by decide) (fun c_6 => ?_) (fun c_6 => ?_)
      · have hc64 : d.count < 64 := (by have h8 : ¬ d.count = 64 := (fun z => c_6 (by rw [z]; rfl)); omega)
        refine lv_aload_n hx hb d_O_commit_40 rfl (lv_at hl 0 rfl) ?_
        refine va_get (D := (dC, dI)) (ci := 7) (v := .ref hma) (C := R_O) (T := F_O) (N := 27) hx hb hw0 in_O hown hK hP 13 rfl rfl 8 (by decide) (hw0 (.fieldLink R_O 25 "TextKeeperModel" "many" "[I") wm_339) (fun _ h9 => h9) rfl d_O_commit_41 ?_
        refine lv_iload_n hx hb d_O_commit_44 rfl (lv_at hl 1 rfl) ?_
        refine va_iald hx hb hK hP 3 1 rfl rfl (vp_in_nI (by omega) (by decide)) d_O_commit_45 ?_
        refine lv_topi (fun x_7 ex_7 => ?_)
        obtain rfl : x_7 = nI d.count := by rw [ex_7, nI_clamp (by omega), hfm] <;> rfl
        clear ex_7
        refine lv_istore_n (lv' := [(3, .int (nI d.count)), (0, .ref h0), (1, .int (nI i)), (2, .int a2)]) hx hb d_O_commit_46 rfl hl (by decide) rfl (fun ls hl => ?_)
        refine lv_aload_n hx hb d_O_commit_47 rfl (lv_at hl 1 rfl) ?_
        refine lv_iconst (v := 0) hx hb d_O_commit_48 (by decide) ?_
        refine va_put (D := (dC, dI)) (ci := 7) (v := .int 0) (ty := .int) (C := R_O) (T := F_O) (N := 27) hx hb hw0 in_O ft_O tk_O nk_O hown hK hP hD hS 13 rfl rfl 14 (by decide) (hw0 (.fieldLink R_O 113 "TextKeeperModel" "madeSize" "I") wm_246) (fun _ h9 => h9) rfl (by decide +kernel) rfl rfl (Nat.le_of_ble_eq_true rfl) d_O_commit_49 (fun H locs hP hD hS => ?_)
        replace hP : va_P (dC, dI) vwCl [(hbu, .inl (cB, 256, .inl (fbu))), (hgo, .inl (cZ, 8, .inl (fg))), (hfi, .inl (cI, 8, .inl (ff))), (hma, .inl (cI, 8, .inl (fm))), (hln, .inl (cL, 512, .inl (fl))), (hau, .inl (cI, 512, .inl (fa))), (hsu, .inl (cI, 512, .inl (fs))), (hrow, .inl (cB, 16384, .inl (fr))), (hmade, .inl (cB, 256, .inl (f))), (hbase, .inl (cB, 256, .inl (fb))), (htx9, .inl (cB, 256, .inl (ft))), (hot, .inl (cB, 256, .inl (fo))), (hpc, .inl (cB, 600, .inl (fp))), (h0, .inr (7, [.int 0, .int 0, .int (vI σ.go), .ref hbu, .int (nI σ.buf.length), .int (nI σ.nd), .ref hgo, .ref hfi, .ref hma, .ref hln, .ref hau, .ref hsu, .ref hrow, .ref hmade, .int 0, .ref hbase, .int z_baseSize, .ref htx9, .int z_textSize, .int σ.stp, .ref hot, .int z_otherSize, .ref hpc, .int z_pieceSize, .int z_at, .int z_end, .int z_value]))] H := hP
        replace hD : va_D A [(hbu, .inl (cB, 256, .inl (fbu))), (hgo, .inl (cZ, 8, .inl (fg))), (hfi, .inl (cI, 8, .inl (ff))), (hma, .inl (cI, 8, .inl (fm))), (hln, .inl (cL, 512, .inl (fl))), (hau, .inl (cI, 512, .inl (fa))), (hsu, .inl (cI, 512, .inl (fs))), (hrow, .inl (cB, 16384, .inl (fr))), (hmade, .inl (cB, 256, .inl (f))), (hbase, .inl (cB, 256, .inl (fb))), (htx9, .inl (cB, 256, .inl (ft))), (hot, .inl (cB, 256, .inl (fo))), (hpc, .inl (cB, 600, .inl (fp))), (h0, .inr (7, [.int 0, .int 0, .int (vI σ.go), .ref hbu, .int (nI σ.buf.length), .int (nI σ.nd), .ref hgo, .ref hfi, .ref hma, .ref hln, .ref hau, .ref hsu, .ref hrow, .ref hmade, .int 0, .ref hbase, .int z_baseSize, .ref htx9, .int z_textSize, .int σ.stp, .ref hot, .int z_otherSize, .ref hpc, .int z_pieceSize, .int z_at, .int z_end, .int z_value]))] := hD
        refine lv_iload_n hx hb d_O_commit_52 rfl (lv_at hl 0 rfl) ?_
        refine lv_if_le (tgt := 71) hx hb d_O_commit_53 (by decide) (fun c_8 => ?_) (fun c_8 => ?_)
        · have hz0 : d.count = 0 := (by rcases Nat.eq_zero_or_pos d.count with z | z; exact z; exact absurd c_8 (nI_nle z (by omega)))
          obtain ⟨Bt, hba⟩ : ∃ Bt, bas d = some Bt := ⟨[], if_pos hz0⟩
          have hBt0 : Bt = [] := (by have h9 := hba; rw [bas, if_pos hz0] at h9; exact (Option.some.inj h9).symm)
          have hMt : tx Bt 0 f := (by rw [hBt0]; exact tx_nil _)
          have hMk : 0 ≤ 256 := (by omega)
          have hBf : tx σ.buf σ.buf.length fbu := hm_bf
          refine lv_aload_n hx hb d_O_commit_71 rfl (lv_at hl 1 rfl) ?_
          have hPc := hP.sub (ws' := [(h0, .inr (7, [.int 0, .int 0, .int (vI σ.go), .ref hbu, .int (nI σ.buf.length), .int (nI σ.nd), .ref hgo, .ref hfi, .ref hma, .ref hln, .ref hau, .ref hsu, .ref hrow, .ref hmade, .int (nI 0), .ref hbase, .int z_baseSize, .ref htx9, .int z_textSize, .int σ.stp, .ref hot, .int z_otherSize, .ref hpc, .int z_pieceSize, .int z_at, .int z_end, .int z_value])), (hpc, .inl (cB, 600, .inl ((fp)))), (hbu, .inl (cB, 256, .inl ((fbu)))), (hmade, .inl (cB, 256, .inl ((f))))]) [13, 12, 0, 8] rfl
          have hKc := hK.sub (tys' := [(cB, .byte), (cB, .byte), (cB, .byte)]) [0, 0, 0] rfl
          have hDc := hD.sub (ws' := [(h0, .inr (7, [.int 0, .int 0, .int (vI σ.go), .ref hbu, .int (nI σ.buf.length), .int (nI σ.nd), .ref hgo, .ref hfi, .ref hma, .ref hln, .ref hau, .ref hsu, .ref hrow, .ref hmade, .int (nI 0), .ref hbase, .int z_baseSize, .ref htx9, .int z_textSize, .int σ.stp, .ref hot, .int z_otherSize, .ref hpc, .int z_pieceSize, .int z_at, .int z_end, .int z_value])), (hpc, .inl (cB, 600, .inl ((fp)))), (hbu, .inl (cB, 256, .inl ((fbu)))), (hmade, .inl (cB, 256, .inl ((f))))]) [13, 12, 0, 8] (by decide) rfl
          have hFc := va_free (wc := [(h0, .inr (7, [.int 0, .int 0, .int (vI σ.go), .ref hbu, .int (nI σ.buf.length), .int (nI σ.nd), .ref hgo, .ref hfi, .ref hma, .ref hln, .ref hau, .ref hsu, .ref hrow, .ref hmade, .int (nI 0), .ref hbase, .int z_baseSize, .ref htx9, .int z_textSize, .int σ.stp, .ref hot, .int z_otherSize, .ref hpc, .int z_pieceSize, .int z_at, .int z_end, .int z_value])), (hpc, .inl (cB, 600, .inl ((fp)))), (hbu, .inl (cB, 256, .inl ((fbu)))), (hmade, .inl (cB, 256, .inl ((f))))]) hD hS hA [13, 12, 0, 8] rfl
          refine va_callv (va_runV (As := []) (rest := []) ⟨hx, hb, hml, hown, hw0⟩ (o_pieces l dC dI H.size h0 0 0 (vI σ.go) (nI σ.nd) (.ref hgo) (.ref hfi) (.ref hma) (.ref hln) (.ref hau) (.ref hsu) (.ref hrow) (.ref hbase) z_baseSize (.ref htx9) z_textSize σ.stp (.ref hot) z_otherSize z_pieceSize z_at z_end z_value hpc cB (fp) hbu cB σ.buf.length (fbu) σ.buf hmade cB 0 (f) Bt (by first | assumption | decide | omega) (by first | assumption | decide | omega) (by first | assumption | decide | omega) (by first | assumption | decide | omega)) (cwV 0 hw0 (gd_Vm wm_389 wm_390 wm_391 wm_243 wm_392) rfl rfl rfl (by decide +kernel) ⟨by decide +kernel, by decide +kernel⟩) (prV_E hPc hKc hDc hN (va_recv hKc hPc (ci := 7) (q0 := 0) rfl rfl)) rfl rfl hl.1 rfl (lv_room (Nat.le_of_ble_eq_true rfl)) d_O_commit_72 ⟨by decide +kernel, by decide +kernel⟩) hS (fun q _ h => hFc q h) hFc (fun u t H1 locs ht hvm hw hB hz1 hk1 hS => ?_)
          obtain ⟨q2_9, g2_10, ⟨hu_11_0, hu_11_1⟩, hP1, hK1, hD1⟩ := hB
          rw [ht] at hP1
          have hK1 := va_K.moved hvm.symm hK1
          try dsimp only at hw
          obtain ⟨hP, hD⟩ := va_join (wr := [(hgo, .inl (cZ, 8, .inl (fg))), (hfi, .inl (cI, 8, .inl (ff))), (hma, .inl (cI, 8, .inl (fm))), (hln, .inl (cL, 512, .inl (fl))), (hau, .inl (cI, 512, .inl (fa))), (hsu, .inl (cI, 512, .inl (fs))), (hrow, .inl (cB, 16384, .inl (fr))), (hbase, .inl (cB, 256, .inl (fb))), (htx9, .inl (cB, 256, .inl (ft))), (hot, .inl (cB, 256, .inl (fo)))]) (w1 := [(h0, .inr (7, [.int 0, .int 0, .int (vI σ.go), .ref hbu, .int (nI σ.buf.length), .int (nI σ.nd), .ref hgo, .ref hfi, .ref hma, .ref hln, .ref hau, .ref hsu, .ref hrow, .ref hmade, .int (nI 0), .ref hbase, .int z_baseSize, .ref htx9, .int z_textSize, .int σ.stp, .ref hot, .int z_otherSize, .ref hpc, .int (nI q2_9), .int z_at, .int z_end, .int z_value])), (hpc, .inl (cB, 600, .inl (g2_10))), (hbu, .inl (cB, 256, .inl ((fbu)))), (hmade, .inl (cB, 256, .inl ((f))))]) hP hD [13, 12, 0, 8] [1, 2, 3, 4, 5, 6, 7, 9, 10, 11] rfl rfl (by decide) (by decide) hk1 hFc hP1 hD1
          generalize H1 = H at hP hS ⊢
          replace hP : va_P (dC, dI) vwCl [(hgo, .inl (cZ, 8, .inl (fg))), (hfi, .inl (cI, 8, .inl (ff))), (hma, .inl (cI, 8, .inl (fm))), (hln, .inl (cL, 512, .inl (fl))), (hau, .inl (cI, 512, .inl (fa))), (hsu, .inl (cI, 512, .inl (fs))), (hrow, .inl (cB, 16384, .inl (fr))), (hbase, .inl (cB, 256, .inl (fb))), (htx9, .inl (cB, 256, .inl (ft))), (hot, .inl (cB, 256, .inl (fo))), (h0, .inr (7, [.int 0, .int 0, .int (vI σ.go), .ref hbu, .int (nI σ.buf.length), .int (nI σ.nd), .ref hgo, .ref hfi, .ref hma, .ref hln, .ref hau, .ref hsu, .ref hrow, .ref hmade, .int (nI 0), .ref hbase, .int z_baseSize, .ref htx9, .int z_textSize, .int σ.stp, .ref hot, .int z_otherSize, .ref hpc, .int (nI q2_9), .int z_at, .int z_end, .int z_value])), (hpc, .inl (cB, 600, .inl (g2_10))), (hbu, .inl (cB, 256, .inl ((fbu)))), (hmade, .inl (cB, 256, .inl ((f))))] H := hP
          replace hD : va_D A [(hgo, .inl (cZ, 8, .inl (fg))), (hfi, .inl (cI, 8, .inl (ff))), (hma, .inl (cI, 8, .inl (fm))), (hln, .inl (cL, 512, .inl (fl))), (hau, .inl (cI, 512, .inl (fa))), (hsu, .inl (cI, 512, .inl (fs))), (hrow, .inl (cB, 16384, .inl (fr))), (hbase, .inl (cB, 256, .inl (fb))), (htx9, .inl (cB, 256, .inl (ft))), (hot, .inl (cB, 256, .inl (fo))), (h0, .inr (7, [.int 0, .int 0, .int (vI σ.go), .ref hbu, .int (nI σ.buf.length), .int (nI σ.nd), .ref hgo, .ref hfi, .ref hma, .ref hln, .ref hau, .ref hsu, .ref hrow, .ref hmade, .int (nI 0), .ref hbase, .int z_baseSize, .ref htx9, .int z_textSize, .int σ.stp, .ref hot, .int z_otherSize, .ref hpc, .int (nI q2_9), .int z_at, .int z_end, .int z_value])), (hpc, .inl (cB, 600, .inl (g2_10))), (hbu, .inl (cB, 256, .inl ((fbu)))), (hmade, .inl (cB, 256, .inl ((f))))] := hD
          replace hK : va_K (dC, dI) vwCl [(cB, .byte), (cI, .int), (cL, .short), (cZ, .boolean)] s := hK
          have hn514 := hu_11_0
          have hPt := hu_11_1
          have hbk9 := blk_le q2_9
          · have hlen : (pce σ.buf Bt).length = q2_9 := hPt.1
            refine lv_aload_n hx hb d_O_commit_75 rfl (lv_at hl 1 rfl) ?_
            refine va_get (D := (dC, dI)) (ci := 7) (v := .int (nI q2_9)) (C := R_O) (T := F_O) (N := 27) hx hb hw0 in_O hown hK hP 10 rfl rfl 23 (by decide) (hw0 (.fieldLink R_O 125 "TextKeeperModel" "pieceSize" "I") wm_239) (fun _ h9 => h9) rfl d_O_commit_76 ?_
            have hPc := hP.sub (ws' := []) [] rfl
            have hKc := hK.sub (tys' := []) [] rfl
            refine ps_i (va_runS (As := [.int (nI q2_9)]) (rest := []) ⟨hx, hb, hml, hown, hw0⟩ (o_blocks l dC dI q2_9 (by first | assumption | decide | omega)) (va_cwS 1 hw0 (gd_S 340 341 243 342 rfl rfl rfl rfl) rfl rfl rfl (by decide +kernel) ⟨by decide +kernel, by decide +kernel⟩) (prS_R hPc hKc hN) rfl rfl hl.1 rfl (lv_room (Nat.le_of_ble_eq_true rfl)) d_O_commit_79 ⟨by decide +kernel, by decide +kernel⟩) (fun r_12 hr_12 => ?_)
            obtain rfl : r_12 = (nI (blk q2_9)) := hr_12
            refine lv_aload_n hx hb d_O_commit_82 rfl (lv_at hl 1 rfl) ?_
            have hPc := hP.sub (ws' := [(h0, .inr (7, [.int 0, .int 0, .int (vI σ.go), .ref hbu, .int (nI σ.buf.length), .int (nI σ.nd), .ref hgo, .ref hfi, .ref hma, .ref hln, .ref hau, .ref hsu, .ref hrow, .ref hmade, .int (nI 0), .ref hbase, .int z_baseSize, .ref htx9, .int z_textSize, .int σ.stp, .ref hot, .int z_otherSize, .ref hpc, .int (nI q2_9), .int z_at, .int z_end, .int z_value])), (hln, .inl (cL, 512, .inl ((fl))))]) [10, 3] rfl
            have hKc := hK.sub (tys' := [(cL, .short)]) [2] rfl
            refine ps_i (va_runV (As := []) (rest := [.int (nI (blk q2_9))]) ⟨hx, hb, hml, hown, hw0⟩ (o_free l dC dI h0 0 0 (vI σ.go) (.ref hbu) (nI σ.buf.length) (nI σ.nd) (.ref hgo) (.ref hfi) (.ref hma) (.ref hau) (.ref hsu) (.ref hrow) (.ref hmade) (nI 0) (.ref hbase) z_baseSize (.ref htx9) z_textSize σ.stp (.ref hot) z_otherSize (.ref hpc) (nI q2_9) z_at z_end z_value hln cL (fl) (lnq (pqS σ.ds)) (by first | assumption | decide | omega) (by first | assumption | decide | omega)) (cwV 0 hw0 (gd_Vm wm_365 wm_366 wm_367 wm_243 wm_368) rfl rfl rfl (by decide +kernel) ⟨by decide +kernel, by decide +kernel⟩) (prV_R hPc hKc hN (va_recv hKc hPc (ci := 7) (q0 := 0) rfl rfl)) rfl rfl hl.1 rfl (lv_room (Nat.le_of_ble_eq_true rfl)) d_O_commit_83 ⟨by decide +kernel, by decide +kernel⟩) (fun r_13 hr_13 => ?_)
            obtain rfl : r_13 = (512 - nI (frb (lnq (pqS σ.ds)) 512)) := hr_13
            refine W.eq (g2 := F0 m 86 ls [.int (nI (512 - usd σ.ds 8)), .int (nI (blk q2_9))]) (by rw [fr_us hs]) ?_
            · have hus := hs.us
              refine lv_icmp_le (tgt := 91) hx hb d_O_commit_86 (by decide) (fun c_14 => ?_) (fun c_14 => ?_)
              · have hroom : blk q2_9 ≤ 512 - usd σ.ds 8 := (nI_leI (by omega) (by omega)).mp c_14
                have hb514 : blk q2_9 ≤ 512 := (by omega)
                rcases hsp : spend σ (blk q2_9 + 1) with _ | τ
                · obtain ⟨w9, hw8, hw9⟩ := spend_none hsp
                  have hn30 : (blk q2_9 + 1) < 2 ^ 30 := (by omega)
                  refine lv_aload_n hx hb d_O_commit_91 rfl (lv_at hl 1 rfl) ?_
                  refine lv_aload_n hx hb d_O_commit_92 rfl (lv_at hl 1 rfl) ?_
                  refine va_get (D := (dC, dI)) (ci := 7) (v := .int (nI q2_9)) (C := R_O) (T := F_O) (N := 27) hx hb hw0 in_O hown hK hP 10 rfl rfl 23 (by decide) (hw0 (.fieldLink R_O 125 "TextKeeperModel" "pieceSize" "I") wm_239) (fun _ h9 => h9) rfl d_O_commit_93 ?_
                  have hPc := hP.sub (ws' := []) [] rfl
                  have hKc := hK.sub (tys' := []) [] rfl
                  refine ps_i (va_runS (As := [.int (nI q2_9)]) (rest := [.ref h0]) ⟨hx, hb, hml, hown, hw0⟩ (o_blocks l dC dI q2_9 (by first | assumption | decide | omega)) (va_cwS 1 hw0 (gd_S 340 341 243 342 rfl rfl rfl rfl) rfl rfl rfl (by decide +kernel) ⟨by decide +kernel, by decide +kernel⟩) (prS_R hPc hKc hN) rfl rfl hl.1 rfl (lv_room (Nat.le_of_ble_eq_true rfl)) d_O_commit_96 ⟨by decide +kernel, by decide +kernel⟩) (fun r_15 hr_15 => ?_)
                  obtain rfl : r_15 = (nI (blk q2_9)) := hr_15
                  refine lv_iconst (v := 1) hx hb d_O_commit_99 (by decide) ?_
                  refine lv_iadd hx hb d_O_commit_100 ?_
                  refine lv_topi (fun x_16 ex_16 => ?_)
                  obtain rfl : x_16 = (nI (blk q2_9 + 1)) := by rw [ex_16]; exact nI_1 _
                  clear ex_16
                  have hPc := hP.sub (ws' := [(h0, .inr (7, [.int 0, .int 0, .int (vI σ.go), .ref hbu, .int (nI σ.buf.length), .int (nI σ.nd), .ref hgo, .ref hfi, .ref hma, .ref hln, .ref hau, .ref hsu, .ref hrow, .ref hmade, .int (nI 0), .ref hbase, .int z_baseSize, .ref htx9, .int z_textSize, .int σ.stp, .ref hot, .int z_otherSize, .ref hpc, .int (nI q2_9), .int z_at, .int z_end, .int z_value]))]) [10] rfl
                  have hKc := hK.sub (tys' := []) [] rfl
                  have hDc := hD.sub (ws' := [(h0, .inr (7, [.int 0, .int 0, .int (vI σ.go), .ref hbu, .int (nI σ.buf.length), .int (nI σ.nd), .ref hgo, .ref hfi, .ref hma, .ref hln, .ref hau, .ref hsu, .ref hrow, .ref hmade, .int (nI 0), .ref hbase, .int z_baseSize, .ref htx9, .int z_textSize, .int σ.stp, .ref hot, .int z_otherSize, .ref hpc, .int (nI q2_9), .int z_at, .int z_end, .int z_value]))]) [10] (by decide) rfl
                  have hFc := va_free (wc := [(h0, .inr (7, [.int 0, .int 0, .int (vI σ.go), .ref hbu, .int (nI σ.buf.length), .int (nI σ.nd), .ref hgo, .ref hfi, .ref hma, .ref hln, .ref hau, .ref hsu, .ref hrow, .ref hmade, .int (nI 0), .ref hbase, .int z_baseSize, .ref htx9, .int z_textSize, .int σ.stp, .ref hot, .int z_otherSize, .ref hpc, .int (nI q2_9), .int z_at, .int z_end, .int z_value]))]) hD hS hA [10] rfl
                  refine va_calli (va_runV (As := [.int (nI (blk q2_9 + 1))]) (rest := []) ⟨hx, hb, hml, hown, hw0⟩ (o_writes_F l dC dI H.size h0 0 0 (.ref hbu) (nI σ.buf.length) (nI σ.nd) (.ref hgo) (.ref hfi) (.ref hma) (.ref hln) (.ref hau) (.ref hsu) (.ref hrow) (.ref hmade) (nI 0) (.ref hbase) z_baseSize (.ref htx9) z_textSize σ.stp (.ref hot) z_otherSize (.ref hpc) (nI q2_9) z_at z_end z_value σ.go _ (blk q2_9 + 1) (by first | assumption | decide | omega) (by first | assumption | decide | omega) (by first | assumption | decide | omega)) (cwV 1 hw0 (gd_Vm wm_369 wm_370 wm_371 wm_243 wm_372) rfl rfl rfl (by decide +kernel) ⟨by decide +kernel, by decide +kernel⟩) (prV_E hPc hKc hDc hN (va_recv hKc hPc (ci := 7) (q0 := 0) rfl rfl)) rfl rfl hl.1 rfl (lv_room (Nat.le_of_ble_eq_true rfl)) d_O_commit_101 ⟨by decide +kernel, by decide +kernel⟩) hS (fun q _ h => hFc q h) hFc (fun r_17 u t H1 locs ht hvm hw hB hz1 hk1 hS => ?_)
                  obtain ⟨hP1, hK1, hD1⟩ := hB
                  rw [ht] at hP1
                  have hK1 := va_K.moved hvm.symm hK1
                  try dsimp only at hw
                  obtain ⟨hP, hD⟩ := va_join (wr := [(hgo, .inl (cZ, 8, .inl (fg))), (hfi, .inl (cI, 8, .inl (ff))), (hma, .inl (cI, 8, .inl (fm))), (hln, .inl (cL, 512, .inl (fl))), (hau, .inl (cI, 512, .inl (fa))), (hsu, .inl (cI, 512, .inl (fs))), (hrow, .inl (cB, 16384, .inl (fr))), (hbase, .inl (cB, 256, .inl (fb))), (htx9, .inl (cB, 256, .inl (ft))), (hot, .inl (cB, 256, .inl (fo))), (hpc, .inl (cB, 600, .inl (g2_10))), (hbu, .inl (cB, 256, .inl ((fbu)))), (hmade, .inl (cB, 256, .inl ((f))))]) (w1 := [(h0, .inr (7, [.int 1, .int 1, .int (-1), .ref hbu, .int 0, .int (nI σ.nd), .ref hgo, .ref hfi, .ref hma, .ref hln, .ref hau, .ref hsu, .ref hrow, .ref hmade, .int (nI 0), .ref hbase, .int z_baseSize, .ref htx9, .int z_textSize, .int σ.stp, .ref hot, .int z_otherSize, .ref hpc, .int (nI q2_9), .int z_at, .int z_end, .int z_value]))]) hP hD [10] [0, 1, 2, 3, 4, 5, 6, 7, 8, 9, 11, 12, 13] rfl rfl (by decide) (by decide) hk1 hFc hP1 hD1
                  generalize H1 = H at hP hS ⊢
                  replace hP : va_P (dC, dI) vwCl [(hgo, .inl (cZ, 8, .inl (fg))), (hfi, .inl (cI, 8, .inl (ff))), (hma, .inl (cI, 8, .inl (fm))), (hln, .inl (cL, 512, .inl (fl))), (hau, .inl (cI, 512, .inl (fa))), (hsu, .inl (cI, 512, .inl (fs))), (hrow, .inl (cB, 16384, .inl (fr))), (hbase, .inl (cB, 256, .inl (fb))), (htx9, .inl (cB, 256, .inl (ft))), (hot, .inl (cB, 256, .inl (fo))), (hpc, .inl (cB, 600, .inl (g2_10))), (hbu, .inl (cB, 256, .inl ((fbu)))), (hmade, .inl (cB, 256, .inl ((f)))), (h0, .inr (7, [.int 1, .int 1, .int (-1), .ref hbu, .int 0, .int (nI σ.nd), .ref hgo, .ref hfi, .ref hma, .ref hln, .ref hau, .ref hsu, .ref hrow, .ref hmade, .int (nI 0), .ref hbase, .int z_baseSize, .ref htx9, .int z_textSize, .int σ.stp, .ref hot, .int z_otherSize, .ref hpc, .int (nI q2_9), .int z_at, .int z_end, .int z_value]))] H := hP
                  replace hD : va_D A [(hgo, .inl (cZ, 8, .inl (fg))), (hfi, .inl (cI, 8, .inl (ff))), (hma, .inl (cI, 8, .inl (fm))), (hln, .inl (cL, 512, .inl (fl))), (hau, .inl (cI, 512, .inl (fa))), (hsu, .inl (cI, 512, .inl (fs))), (hrow, .inl (cB, 16384, .inl (fr))), (hbase, .inl (cB, 256, .inl (fb))), (htx9, .inl (cB, 256, .inl (ft))), (hot, .inl (cB, 256, .inl (fo))), (hpc, .inl (cB, 600, .inl (g2_10))), (hbu, .inl (cB, 256, .inl ((fbu)))), (hmade, .inl (cB, 256, .inl ((f)))), (h0, .inr (7, [.int 1, .int 1, .int (-1), .ref hbu, .int 0, .int (nI σ.nd), .ref hgo, .ref hfi, .ref hma, .ref hln, .ref hau, .ref hsu, .ref hrow, .ref hmade, .int (nI 0), .ref hbase, .int z_baseSize, .ref htx9, .int z_textSize, .int σ.stp, .ref hot, .int z_otherSize, .ref hpc, .int (nI q2_9), .int z_at, .int z_end, .int z_value]))] := hD
                  replace hK : va_K (dC, dI) vwCl [(cB, .byte), (cI, .int), (cL, .short), (cZ, .boolean)] s := hK
                  obtain rfl : r_17 = 0 := hw
                  refine lv_if_ne (tgt := 109) hx hb d_O_commit_104 (by decide) (fun h9 => absurd h9 (by decide +kernel)) (fun _ => ?_)
                  refine lv_iconst (v := 0) hx hb d_O_commit_107 (by decide) ?_
                  have hσ : (sCommit σ (nI i) a2) = (off σ, 1, 0) := (by unfold sCommit; rw [if_neg (by rw [hdw]; decide), hdg]; refine (if_neg (by omega)).trans ?_; rw [hba]; refine (if_neg (by rw [hlen]; omega)).trans ?_; rw [hlen, hsp])
                  have hP9 := hP.sub (ws' := [(h0, .inr (7, [.int 1, .int 1, .int (-1), .ref hbu, .int 0, .int (nI σ.nd), .ref hgo, .ref hfi, .ref hma, .ref hln, .ref hau, .ref hsu, .ref hrow, .ref hmade, .int (nI 0), .ref hbase, .int z_baseSize, .ref htx9, .int z_textSize, .int σ.stp, .ref hot, .int z_otherSize, .ref hpc, .int (nI q2_9), .int z_at, .int z_end, .int z_value])), (hbu, .inl (cB, 256, .inl ((fbu)))), (hgo, .inl (cZ, 8, .inl (fg))), (hfi, .inl (cI, 8, .inl (ff))), (hma, .inl (cI, 8, .inl (fm))), (hln, .inl (cL, 512, .inl (fl))), (hau, .inl (cI, 512, .inl (fa))), (hsu, .inl (cI, 512, .inl (fs))), (hrow, .inl (cB, 16384, .inl (fr))), (hmade, .inl (cB, 256, .inl ((f)))), (hbase, .inl (cB, 256, .inl (fb))), (htx9, .inl (cB, 256, .inl (ft))), (hot, .inl (cB, 256, .inl (fo))), (hpc, .inl (cB, 600, .inl (g2_10)))]) [13, 11, 0, 1, 2, 3, 4, 5, 6, 12, 7, 8, 9, 10] rfl
                  have hD9 := hD.sub (ws' := [(h0, .inr (7, [.int 1, .int 1, .int (-1), .ref hbu, .int 0, .int (nI σ.nd), .ref hgo, .ref hfi, .ref hma, .ref hln, .ref hau, .ref hsu, .ref hrow, .ref hmade, .int (nI 0), .ref hbase, .int z_baseSize, .ref htx9, .int z_textSize, .int σ.stp, .ref hot, .int z_otherSize, .ref hpc, .int (nI q2_9), .int z_at, .int z_end, .int z_value])), (hbu, .inl (cB, 256, .inl ((fbu)))), (hgo, .inl (cZ, 8, .inl (fg))), (hfi, .inl (cI, 8, .inl (ff))), (hma, .inl (cI, 8, .inl (fm))), (hln, .inl (cL, 512, .inl (fl))), (hau, .inl (cI, 512, .inl (fa))), (hsu, .inl (cI, 512, .inl (fs))), (hrow, .inl (cB, 16384, .inl (fr))), (hmade, .inl (cB, 256, .inl ((f)))), (hbase, .inl (cB, 256, .inl (fb))), (htx9, .inl (cB, 256, .inl (ft))), (hot, .inl (cB, 256, .inl (fo))), (hpc, .inl (cB, 600, .inl (g2_10)))]) [13, 11, 0, 1, 2, 3, 4, 5, 6, 12, 7, 8, 9, 10] (by decide) rfl
                  have hK9 := hK.sub (tys' := mT cB cI cL cZ) [0, 1, 2, 3] rfl
                  exact W.iret (v := 0) hx hb hr (fun t ht hW => ⟨⟨0, (), rfl, (fun _ => (congrArg (fun z => z.2.2) hσ).symm), ⟨⟨hbu, hgo, hfi, hma, hln, hau, hsu, hrow, hmade, hbase, htx9, hot, hpc, 1, 1, (-1), 0, (nI σ.nd), (nI 0), z_baseSize, z_textSize, σ.stp, z_otherSize, (nI q2_9), z_at, z_end, z_value, (fbu), fg, ff, fm, fl, fa, fs, fr, (f), fb, ft, fo, g2_10⟩, ⟨(by rw [hσ]; exact (mOk.mk rfl rfl rfl (tx_nil _) hm_nd hm_gn hm_fm hm_ln hm_rw hm_au hm_tq hm_st)), (congrArg (fun z => z.2.1) hσ).symm⟩, by rw [ht]; exact hP9, va_K.moved hW.alike hK9, hD9⟩⟩, hS.F ht⟩) hS.2.2 d_O_commit_108
                · obtain ⟨hτ, hle9⟩ := spend_some hsp
                  have hn30 : (blk q2_9 + 1) < 2 ^ 30 := (by omega)
                  have hg9 := hs.go
                  refine lv_aload_n hx hb d_O_commit_91 rfl (lv_at hl 1 rfl) ?_
                  refine lv_aload_n hx hb d_O_commit_92 rfl (lv_at hl 1 rfl) ?_
                  refine va_get (D := (dC, dI)) (ci := 7) (v := .int (nI q2_9)) (C := R_O) (T := F_O) (N := 27) hx hb hw0 in_O hown hK hP 10 rfl rfl 23 (by decide) (hw0 (.fieldLink R_O 125 "TextKeeperModel" "pieceSize" "I") wm_239) (fun _ h9 => h9) rfl d_O_commit_93 ?_
                  have hPc := hP.sub (ws' := []) [] rfl
                  have hKc := hK.sub (tys' := []) [] rfl
                  refine ps_i (va_runS (As := [.int (nI q2_9)]) (rest := [.ref h0]) ⟨hx, hb, hml, hown, hw0⟩ (o_blocks l dC dI q2_9 (by first | assumption | decide | omega)) (va_cwS 1 hw0 (gd_S 340 341 243 342 rfl rfl rfl rfl) rfl rfl rfl (by decide +kernel) ⟨by decide +kernel, by decide +kernel⟩) (prS_R hPc hKc hN) rfl rfl hl.1 rfl (lv_room (Nat.le_of_ble_eq_true rfl)) d_O_commit_96 ⟨by decide +kernel, by decide +kernel⟩) (fun r_19 hr_19 => ?_)
                  obtain rfl : r_19 = (nI (blk q2_9)) := hr_19
                  refine lv_iconst (v := 1) hx hb d_O_commit_99 (by decide) ?_
                  refine lv_iadd hx hb d_O_commit_100 ?_
                  refine lv_topi (fun x_20 ex_20 => ?_)
                  obtain rfl : x_20 = (nI (blk q2_9 + 1)) := by rw [ex_20]; exact nI_1 _
                  clear ex_20
                  have hPc := hP.sub (ws' := [(h0, .inr (7, [.int 0, .int 0, .int (vI σ.go), .ref hbu, .int (nI σ.buf.length), .int (nI σ.nd), .ref hgo, .ref hfi, .ref hma, .ref hln, .ref hau, .ref hsu, .ref hrow, .ref hmade, .int (nI 0), .ref hbase, .int z_baseSize, .ref htx9, .int z_textSize, .int σ.stp, .ref hot, .int z_otherSize, .ref hpc, .int (nI q2_9), .int z_at, .int z_end, .int z_value]))]) [10] rfl
                  have hKc := hK.sub (tys' := []) [] rfl
                  have hDc := hD.sub (ws' := [(h0, .inr (7, [.int 0, .int 0, .int (vI σ.go), .ref hbu, .int (nI σ.buf.length), .int (nI σ.nd), .ref hgo, .ref hfi, .ref hma, .ref hln, .ref hau, .ref hsu, .ref hrow, .ref hmade, .int (nI 0), .ref hbase, .int z_baseSize, .ref htx9, .int z_textSize, .int σ.stp, .ref hot, .int z_otherSize, .ref hpc, .int (nI q2_9), .int z_at, .int z_end, .int z_value]))]) [10] (by decide) rfl
                  have hFc := va_free (wc := [(h0, .inr (7, [.int 0, .int 0, .int (vI σ.go), .ref hbu, .int (nI σ.buf.length), .int (nI σ.nd), .ref hgo, .ref hfi, .ref hma, .ref hln, .ref hau, .ref hsu, .ref hrow, .ref hmade, .int (nI 0), .ref hbase, .int z_baseSize, .ref htx9, .int z_textSize, .int σ.stp, .ref hot, .int z_otherSize, .ref hpc, .int (nI q2_9), .int z_at, .int z_end, .int z_value]))]) hD hS hA [10] rfl
                  refine va_calli (va_runV (As := [.int (nI (blk q2_9 + 1))]) (rest := []) ⟨hx, hb, hml, hown, hw0⟩ (o_writes_T l dC dI H.size h0 0 0 (.ref hbu) (nI σ.buf.length) (nI σ.nd) (.ref hgo) (.ref hfi) (.ref hma) (.ref hln) (.ref hau) (.ref hsu) (.ref hrow) (.ref hmade) (nI 0) (.ref hbase) z_baseSize (.ref htx9) z_textSize σ.stp (.ref hot) z_otherSize (.ref hpc) (nI q2_9) z_at z_end z_value σ.go (blk q2_9 + 1) (by first | assumption | decide | omega) (by first | assumption | decide | omega) (by first | assumption | decide | omega)) (cwV 1 hw0 (gd_Vm wm_369 wm_370 wm_371 wm_243 wm_372) rfl rfl rfl (by decide +kernel) ⟨by decide +kernel, by decide +kernel⟩) (prV_E hPc hKc hDc hN (va_recv hKc hPc (ci := 7) (q0 := 0) rfl rfl)) rfl rfl hl.1 rfl (lv_room (Nat.le_of_ble_eq_true rfl)) d_O_commit_101 ⟨by decide +kernel, by decide +kernel⟩) hS (fun q _ h => hFc q h) hFc (fun r_21 u t H1 locs ht hvm hw hB hz1 hk1 hS => ?_)
                  obtain ⟨la_22, hu_23, hP1, hK1, hD1⟩ := hB
                  rw [ht] at hP1
                  have hK1 := va_K.moved hvm.symm hK1
                  try dsimp only at hw
                  obtain ⟨hP, hD⟩ := va_join (wr := [(hgo, .inl (cZ, 8, .inl (fg))), (hfi, .inl (cI, 8, .inl (ff))), (hma, .inl (cI, 8, .inl (fm))), (hln, .inl (cL, 512, .inl (fl))), (hau, .inl (cI, 512, .inl (fa))), (hsu, .inl (cI, 512, .inl (fs))), (hrow, .inl (cB, 16384, .inl (fr))), (hbase, .inl (cB, 256, .inl (fb))), (htx9, .inl (cB, 256, .inl (ft))), (hot, .inl (cB, 256, .inl (fo))), (hpc, .inl (cB, 600, .inl (g2_10))), (hbu, .inl (cB, 256, .inl ((fbu)))), (hmade, .inl (cB, 256, .inl ((f))))]) (w1 := [(h0, .inr (7, [.int 0, .int 0, .int la_22, .ref hbu, .int (nI σ.buf.length), .int (nI σ.nd), .ref hgo, .ref hfi, .ref hma, .ref hln, .ref hau, .ref hsu, .ref hrow, .ref hmade, .int (nI 0), .ref hbase, .int z_baseSize, .ref htx9, .int z_textSize, .int σ.stp, .ref hot, .int z_otherSize, .ref hpc, .int (nI q2_9), .int z_at, .int z_end, .int z_value]))]) hP hD [10] [0, 1, 2, 3, 4, 5, 6, 7, 8, 9, 11, 12, 13] rfl rfl (by decide) (by decide) hk1 hFc hP1 hD1
                  generalize H1 = H at hP hS ⊢
                  replace hP : va_P (dC, dI) vwCl [(hgo, .inl (cZ, 8, .inl (fg))), (hfi, .inl (cI, 8, .inl (ff))), (hma, .inl (cI, 8, .inl (fm))), (hln, .inl (cL, 512, .inl (fl))), (hau, .inl (cI, 512, .inl (fa))), (hsu, .inl (cI, 512, .inl (fs))), (hrow, .inl (cB, 16384, .inl (fr))), (hbase, .inl (cB, 256, .inl (fb))), (htx9, .inl (cB, 256, .inl (ft))), (hot, .inl (cB, 256, .inl (fo))), (hpc, .inl (cB, 600, .inl (g2_10))), (hbu, .inl (cB, 256, .inl ((fbu)))), (hmade, .inl (cB, 256, .inl ((f)))), (h0, .inr (7, [.int 0, .int 0, .int la_22, .ref hbu, .int (nI σ.buf.length), .int (nI σ.nd), .ref hgo, .ref hfi, .ref hma, .ref hln, .ref hau, .ref hsu, .ref hrow, .ref hmade, .int (nI 0), .ref hbase, .int z_baseSize, .ref htx9, .int z_textSize, .int σ.stp, .ref hot, .int z_otherSize, .ref hpc, .int (nI q2_9), .int z_at, .int z_end, .int z_value]))] H := hP
                  replace hD : va_D A [(hgo, .inl (cZ, 8, .inl (fg))), (hfi, .inl (cI, 8, .inl (ff))), (hma, .inl (cI, 8, .inl (fm))), (hln, .inl (cL, 512, .inl (fl))), (hau, .inl (cI, 512, .inl (fa))), (hsu, .inl (cI, 512, .inl (fs))), (hrow, .inl (cB, 16384, .inl (fr))), (hbase, .inl (cB, 256, .inl (fb))), (htx9, .inl (cB, 256, .inl (ft))), (hot, .inl (cB, 256, .inl (fo))), (hpc, .inl (cB, 600, .inl (g2_10))), (hbu, .inl (cB, 256, .inl ((fbu)))), (hmade, .inl (cB, 256, .inl ((f)))), (h0, .inr (7, [.int 0, .int 0, .int la_22, .ref hbu, .int (nI σ.buf.length), .int (nI σ.nd), .ref hgo, .ref hfi, .ref hma, .ref hln, .ref hau, .ref hsu, .ref hrow, .ref hmade, .int (nI 0), .ref hbase, .int z_baseSize, .ref htx9, .int z_textSize, .int σ.stp, .ref hot, .int z_otherSize, .ref hpc, .int (nI q2_9), .int z_at, .int z_end, .int z_value]))] := hD
                  replace hK : va_K (dC, dI) vwCl [(cB, .byte), (cI, .int), (cL, .short), (cZ, .boolean)] s := hK
                  obtain rfl : r_21 = 1 := hw
                  refine lv_if_ne (tgt := 109) hx hb d_O_commit_104 (by decide) (fun _ => ?_) (fun h9 => absurd h9 (by decide +kernel))
                  refine lv_bipush (v := 64) hx hb d_O_commit_109 (by decide +kernel) ?_
                  refine lv_iload_n hx hb d_O_commit_111 rfl (lv_at hl 2 rfl) ?_
                  refine lv_imul hx hb d_O_commit_112 ?_
                  refine lv_topi (fun x_24 ex_24 => ?_)
                  obtain rfl : x_24 = (nI (64 * i)) := by rw [ex_24]; exact (show nI 64 * nI i = nI (64 * i) from pk_mul _ _)
                  clear ex_24
                  refine lv_iload_n hx hb d_O_commit_113 rfl (lv_at hl 0 rfl) ?_
                  refine lv_iadd hx hb d_O_commit_114 ?_
                  refine lv_topi (fun x_25 ex_25 => ?_)
                  obtain rfl : x_25 = (nI (64 * i + d.count)) := by rw [ex_25]; exact nI_add _ _
                  clear ex_25
                  refine lv_istore (lv' := [(4, .int (nI (64 * i + d.count))), (3, .int (nI d.count)), (0, .ref h0), (1, .int (nI i)), (2, .int a2)]) hx hb d_O_commit_115 hl (by decide) rfl (fun ls hl => ?_)
                  refine lv_aload_n hx hb d_O_commit_117 rfl (lv_at hl 2 rfl) ?_
                  refine lv_iload hx hb d_O_commit_118 (lv_at hl 0 rfl) ?_
                  have hPc := hP.sub (ws' := [(h0, .inr (7, [.int 0, .int 0, .int la_22, .ref hbu, .int (nI σ.buf.length), .int (nI σ.nd), .ref hgo, .ref hfi, .ref hma, .ref hln, .ref hau, .ref hsu, .ref hrow, .ref hmade, .int (nI 0), .ref hbase, .int z_baseSize, .ref htx9, .int z_textSize, .int σ.stp, .ref hot, .int z_otherSize, .ref hpc, .int (nI q2_9), .int z_at, .int z_end, .int z_value])), (hln, .inl (cL, 512, .inl ((fl))))]) [13, 3] rfl
                  have hKc := hK.sub (tys' := [(cL, .short)]) [2] rfl
                  refine ps_i (va_runV (As := [.int (nI (64 * i + d.count))]) (rest := []) ⟨hx, hb, hml, hown, hw0⟩ (o_begins l dC dI h0 0 0 la_22 (.ref hbu) (nI σ.buf.length) (nI σ.nd) (.ref hgo) (.ref hfi) (.ref hma) (.ref hau) (.ref hsu) (.ref hrow) (.ref hmade) (nI 0) (.ref hbase) z_baseSize (.ref htx9) z_textSize σ.stp (.ref hot) z_otherSize (.ref hpc) (nI q2_9) z_at z_end z_value hln cL (fl) (lnq (pqS σ.ds)) (64 * i + d.count) (by first | assumption | decide | omega) (by first | assumption | decide | omega) (by first | assumption | decide | omega)) (cwV 1 hw0 (gd_Vm wm_343 wm_344 wm_345 wm_243 wm_346) rfl rfl rfl (by decide +kernel) ⟨by decide +kernel, by decide +kernel⟩) (prV_R hPc hKc hN (va_recv hKc hPc (ci := 7) (q0 := 0) rfl rfl)) rfl rfl hl.1 rfl (lv_room (Nat.le_of_ble_eq_true rfl)) d_O_commit_120 ⟨by decide +kernel, by decide +kernel⟩) (fun r_26 hr_26 => ?_)
                  obtain rfl : r_26 = (nI (bgs (lnq (pqS σ.ds)) (64 * i + d.count))) := hr_26
                  refine lv_istore (lv' := [(5, .int (nI (bgs (lnq (pqS σ.ds)) (64 * i + d.count)))), (4, .int (nI (64 * i + d.count))), (3, .int (nI d.count)), (0, .ref h0), (1, .int (nI i)), (2, .int a2)]) hx hb d_O_commit_123 hl (by decide) rfl (fun ls hl => ?_)
                  refine lv_sipush (v := 16383) hx hb d_O_commit_125 (by decide +kernel) ?_
                  refine lv_istore (lv' := [(6, .int 16383), (5, .int (nI (bgs (lnq (pqS σ.ds)) (64 * i + d.count)))), (4, .int (nI (64 * i + d.count))), (3, .int (nI d.count)), (0, .ref h0), (1, .int (nI i)), (2, .int a2)]) hx hb d_O_commit_128 hl (by decide) rfl (fun ls hl => ?_)
                  have hq512 : 64 * i + d.count < 512 := (by omega)
                  have hpn : pqS σ.ds (64 * i + d.count) = none := cm_nn hdi hdk.2 hc64
                  have hfu : frb (lnq (pqS σ.ds)) 512 + blk q2_9 ≤ 512 := (by have h9 := frb_us (fun i d e => (hs.ds i d e).2) 8; rw [show 64 * 8 = 512 from rfl] at h9; rw [h9]; omega)
                  obtain ⟨hbn, hrow2⟩ := row_cm hrw hq512 hpn hPt hfu
                  rw [← shu_0 fr q2_9] at hP hD
                  refine lo_shu h0 0 0 la_22 (.ref hbu) (nI σ.buf.length) (nI σ.nd) (.ref hgo) (.ref hfi) (.ref hma) (.ref hln) (.ref hau) (.ref hsu) (.ref hmade) (nI 0) (.ref hbase) z_baseSize (.ref htx9) z_textSize σ.stp (.ref hot) z_otherSize (.ref hpc) z_at z_end z_value hrow cB fr q2_9 (bgs (lnq (pqS σ.ds)) (64 * i + d.count)) ([(hgo, .inl (cZ, 8, .inl (fg))), (hfi, .inl (cI, 8, .inl (ff))), (hma, .inl (cI, 8, .inl (fm))), (hln, .inl (cL, 512, .inl (fl))), (hau, .inl (cI, 512, .inl (fa))), (hsu, .inl (cI, 512, .inl (fs))), (hbase, .inl (cB, 256, .inl (fb))), (htx9, .inl (cB, 256, .inl (ft))), (hot, .inl (cB, 256, .inl (fo))), (hpc, .inl (cB, 600, .inl (g2_10))), (hbu, .inl (cB, 256, .inl ((fbu)))), (hmade, .inl (cB, 256, .inl ((f))))]) i a2 d.count (64 * i + d.count) hbn hx hb hml hown hw0 hN (hK.sub (tys' := [(cB, .byte)]) [0] rfl) hA (fun H locs hP hD hS ls hl => ?_) (16384 - ((bgs (lnq (pqS σ.ds)) (64 * i + d.count)) + q2_9) + 1) 0 (by omega) (by omega) _ _ (hP.sub (ws' := [(h0, .inr (7, [.int 0, .int 0, .int la_22, .ref hbu, .int (nI σ.buf.length), .int (nI σ.nd), .ref hgo, .ref hfi, .ref hma, .ref hln, .ref hau, .ref hsu, .ref hrow, .ref hmade, .int (nI 0), .ref hbase, .int z_baseSize, .ref htx9, .int z_textSize, .int σ.stp, .ref hot, .int z_otherSize, .ref hpc, .int (nI q2_9), .int z_at, .int z_end, .int z_value])), (hrow, .inl (cB, 16384, .inl ((shu fr q2_9 16384)))), (hgo, .inl (cZ, 8, .inl (fg))), (hfi, .inl (cI, 8, .inl (ff))), (hma, .inl (cI, 8, .inl (fm))), (hln, .inl (cL, 512, .inl (fl))), (hau, .inl (cI, 512, .inl (fa))), (hsu, .inl (cI, 512, .inl (fs))), (hbase, .inl (cB, 256, .inl (fb))), (htx9, .inl (cB, 256, .inl (ft))), (hot, .inl (cB, 256, .inl (fo))), (hpc, .inl (cB, 600, .inl (g2_10))), (hbu, .inl (cB, 256, .inl ((fbu)))), (hmade, .inl (cB, 256, .inl ((f))))]) [13, 6, 0, 1, 2, 3, 4, 5, 7, 8, 9, 10, 11, 12] rfl) (hD.sub (ws' := [(h0, .inr (7, [.int 0, .int 0, .int la_22, .ref hbu, .int (nI σ.buf.length), .int (nI σ.nd), .ref hgo, .ref hfi, .ref hma, .ref hln, .ref hau, .ref hsu, .ref hrow, .ref hmade, .int (nI 0), .ref hbase, .int z_baseSize, .ref htx9, .int z_textSize, .int σ.stp, .ref hot, .int z_otherSize, .ref hpc, .int (nI q2_9), .int z_at, .int z_end, .int z_value])), (hrow, .inl (cB, 16384, .inl ((shu fr q2_9 16384)))), (hgo, .inl (cZ, 8, .inl (fg))), (hfi, .inl (cI, 8, .inl (ff))), (hma, .inl (cI, 8, .inl (fm))), (hln, .inl (cL, 512, .inl (fl))), (hau, .inl (cI, 512, .inl (fa))), (hsu, .inl (cI, 512, .inl (fs))), (hbase, .inl (cB, 256, .inl (fb))), (htx9, .inl (cB, 256, .inl (ft))), (hot, .inl (cB, 256, .inl (fo))), (hpc, .inl (cB, 600, .inl (g2_10))), (hbu, .inl (cB, 256, .inl ((fbu)))), (hmade, .inl (cB, 256, .inl ((f))))]) [13, 6, 0, 1, 2, 3, 4, 5, 7, 8, 9, 10, 11, 12] (by decide) rfl) hS ls (lv_sub hl [0, 4, 5, 6, 3, 2, 1] rfl)
                  rw [show 16384 - (16384 - ((bgs (lnq (pqS σ.ds)) (64 * i + d.count)) + q2_9)) = (bgs (lnq (pqS σ.ds)) (64 * i + d.count)) + q2_9 by omega] at hP hD
                  replace hP : va_P (dC, dI) vwCl [(h0, .inr (7, [.int 0, .int 0, .int la_22, .ref hbu, .int (nI σ.buf.length), .int (nI σ.nd), .ref hgo, .ref hfi, .ref hma, .ref hln, .ref hau, .ref hsu, .ref hrow, .ref hmade, .int (nI 0), .ref hbase, .int z_baseSize, .ref htx9, .int z_textSize, .int σ.stp, .ref hot, .int z_otherSize, .ref hpc, .int (nI q2_9), .int z_at, .int z_end, .int z_value])), (hrow, .inl (cB, 16384, .inl ((shu fr q2_9 ((bgs (lnq (pqS σ.ds)) (64 * i + d.count)) + q2_9))))), (hgo, .inl (cZ, 8, .inl (fg))), (hfi, .inl (cI, 8, .inl (ff))), (hma, .inl (cI, 8, .inl (fm))), (hln, .inl (cL, 512, .inl (fl))), (hau, .inl (cI, 512, .inl (fa))), (hsu, .inl (cI, 512, .inl (fs))), (hbase, .inl (cB, 256, .inl (fb))), (htx9, .inl (cB, 256, .inl (ft))), (hot, .inl (cB, 256, .inl (fo))), (hpc, .inl (cB, 600, .inl (g2_10))), (hbu, .inl (cB, 256, .inl ((fbu)))), (hmade, .inl (cB, 256, .inl ((f))))] H := hP
                  replace hD : va_D A [(h0, .inr (7, [.int 0, .int 0, .int la_22, .ref hbu, .int (nI σ.buf.length), .int (nI σ.nd), .ref hgo, .ref hfi, .ref hma, .ref hln, .ref hau, .ref hsu, .ref hrow, .ref hmade, .int (nI 0), .ref hbase, .int z_baseSize, .ref htx9, .int z_textSize, .int σ.stp, .ref hot, .int z_otherSize, .ref hpc, .int (nI q2_9), .int z_at, .int z_end, .int z_value])), (hrow, .inl (cB, 16384, .inl ((shu fr q2_9 ((bgs (lnq (pqS σ.ds)) (64 * i + d.count)) + q2_9))))), (hgo, .inl (cZ, 8, .inl (fg))), (hfi, .inl (cI, 8, .inl (ff))), (hma, .inl (cI, 8, .inl (fm))), (hln, .inl (cL, 512, .inl (fl))), (hau, .inl (cI, 512, .inl (fa))), (hsu, .inl (cI, 512, .inl (fs))), (hbase, .inl (cB, 256, .inl (fb))), (htx9, .inl (cB, 256, .inl (ft))), (hot, .inl (cB, 256, .inl (fo))), (hpc, .inl (cB, 600, .inl (g2_10))), (hbu, .inl (cB, 256, .inl ((fbu)))), (hmade, .inl (cB, 256, .inl ((f))))] := hD
                  have hl := lv_sub hl [1, 2, 3, 4, 5, 6] rfl
                  have hl : lv_has ls 7 [(0, .ref h0), (1, .int (nI i)), (2, .int a2), (3, .int (nI d.count)), (4, .int (nI (64 * i + d.count))), (5, .int (nI (bgs (lnq (pqS σ.ds)) (64 * i + d.count))))] := hl
                  refine lv_iconst (v := 0) hx hb d_O_commit_167 (by decide) ?_
                  refine lv_istore (lv' := [(6, .int 0), (0, .ref h0), (1, .int (nI i)), (2, .int a2), (3, .int (nI d.count)), (4, .int (nI (64 * i + d.count))), (5, .int (nI (bgs (lnq (pqS σ.ds)) (64 * i + d.count))))]) hx hb d_O_commit_168 hl (by decide) rfl (fun ls hl => ?_)
                  rw [← cpw_0 (shu fr q2_9 ((bgs (lnq (pqS σ.ds)) (64 * i + d.count)) + q2_9)) g2_10 (bgs (lnq (pqS σ.ds)) (64 * i + d.count))] at hP hD
                  refine lo_cpw h0 0 0 la_22 (.ref hbu) (nI σ.buf.length) (nI σ.nd) (.ref hgo) (.ref hfi) (.ref hma) (.ref hln) (.ref hau) (.ref hsu) (.ref hmade) (nI 0) (.ref hbase) z_baseSize (.ref htx9) z_textSize σ.stp (.ref hot) z_otherSize z_at z_end z_value hrow cB (shu fr q2_9 ((bgs (lnq (pqS σ.ds)) (64 * i + d.count)) + q2_9)) hpc g2_10 q2_9 (bgs (lnq (pqS σ.ds)) (64 * i + d.count)) ([(hgo, .inl (cZ, 8, .inl (fg))), (hfi, .inl (cI, 8, .inl (ff))), (hma, .inl (cI, 8, .inl (fm))), (hln, .inl (cL, 512, .inl (fl))), (hau, .inl (cI, 512, .inl (fa))), (hsu, .inl (cI, 512, .inl (fs))), (hbase, .inl (cB, 256, .inl (fb))), (htx9, .inl (cB, 256, .inl (ft))), (hot, .inl (cB, 256, .inl (fo))), (hbu, .inl (cB, 256, .inl ((fbu)))), (hmade, .inl (cB, 256, .inl ((f))))]) i a2 d.count (64 * i + d.count) hbn hn514 hx hb hml hown hw0 hN (hK.sub (tys' := [(cB, .byte)]) [0] rfl) hA (fun H locs hP hD hS ls hl => ?_) (q2_9 + 1) 0 (by omega) (by omega) _ _ (hP.sub (ws' := [(h0, .inr (7, [.int 0, .int 0, .int la_22, .ref hbu, .int (nI σ.buf.length), .int (nI σ.nd), .ref hgo, .ref hfi, .ref hma, .ref hln, .ref hau, .ref hsu, .ref hrow, .ref hmade, .int (nI 0), .ref hbase, .int z_baseSize, .ref htx9, .int z_textSize, .int σ.stp, .ref hot, .int z_otherSize, .ref hpc, .int (nI q2_9), .int z_at, .int z_end, .int z_value])), (hrow, .inl (cB, 16384, .inl ((cpw (shu fr q2_9 ((bgs (lnq (pqS σ.ds)) (64 * i + d.count)) + q2_9)) g2_10 (bgs (lnq (pqS σ.ds)) (64 * i + d.count)) 0)))), (hpc, .inl (cB, 600, .inl (g2_10))), (hgo, .inl (cZ, 8, .inl (fg))), (hfi, .inl (cI, 8, .inl (ff))), (hma, .inl (cI, 8, .inl (fm))), (hln, .inl (cL, 512, .inl (fl))), (hau, .inl (cI, 512, .inl (fa))), (hsu, .inl (cI, 512, .inl (fs))), (hbase, .inl (cB, 256, .inl (fb))), (htx9, .inl (cB, 256, .inl (ft))), (hot, .inl (cB, 256, .inl (fo))), (hbu, .inl (cB, 256, .inl ((fbu)))), (hmade, .inl (cB, 256, .inl ((f))))]) [0, 1, 11, 2, 3, 4, 5, 6, 7, 8, 9, 10, 12, 13] rfl) (hD.sub (ws' := [(h0, .inr (7, [.int 0, .int 0, .int la_22, .ref hbu, .int (nI σ.buf.length), .int (nI σ.nd), .ref hgo, .ref hfi, .ref hma, .ref hln, .ref hau, .ref hsu, .ref hrow, .ref hmade, .int (nI 0), .ref hbase, .int z_baseSize, .ref htx9, .int z_textSize, .int σ.stp, .ref hot, .int z_otherSize, .ref hpc, .int (nI q2_9), .int z_at, .int z_end, .int z_value])), (hrow, .inl (cB, 16384, .inl ((cpw (shu fr q2_9 ((bgs (lnq (pqS σ.ds)) (64 * i + d.count)) + q2_9)) g2_10 (bgs (lnq (pqS σ.ds)) (64 * i + d.count)) 0)))), (hpc, .inl (cB, 600, .inl (g2_10))), (hgo, .inl (cZ, 8, .inl (fg))), (hfi, .inl (cI, 8, .inl (ff))), (hma, .inl (cI, 8, .inl (fm))), (hln, .inl (cL, 512, .inl (fl))), (hau, .inl (cI, 512, .inl (fa))), (hsu, .inl (cI, 512, .inl (fs))), (hbase, .inl (cB, 256, .inl (fb))), (htx9, .inl (cB, 256, .inl (ft))), (hot, .inl (cB, 256, .inl (fo))), (hbu, .inl (cB, 256, .inl ((fbu)))), (hmade, .inl (cB, 256, .inl ((f))))]) [0, 1, 11, 2, 3, 4, 5, 6, 7, 8, 9, 10, 12, 13] (by decide) rfl) hS ls (lv_sub hl [0, 1, 2, 3, 4, 5, 6] rfl)
                  replace hP : va_P (dC, dI) vwCl [(h0, .inr (7, [.int 0, .int 0, .int la_22, .ref hbu, .int (nI σ.buf.length), .int (nI σ.nd), .ref hgo, .ref hfi, .ref hma, .ref hln, .ref hau, .ref hsu, .ref hrow, .ref hmade, .int (nI 0), .ref hbase, .int z_baseSize, .ref htx9, .int z_textSize, .int σ.stp, .ref hot, .int z_otherSize, .ref hpc, .int (nI q2_9), .int z_at, .int z_end, .int z_value])), (hrow, .inl (cB, 16384, .inl ((cpw (shu fr q2_9 ((bgs (lnq (pqS σ.ds)) (64 * i + d.count)) + q2_9)) g2_10 (bgs (lnq (pqS σ.ds)) (64 * i + d.count)) q2_9)))), (hpc, .inl (cB, 600, .inl (g2_10))), (hgo, .inl (cZ, 8, .inl (fg))), (hfi, .inl (cI, 8, .inl (ff))), (hma, .inl (cI, 8, .inl (fm))), (hln, .inl (cL, 512, .inl (fl))), (hau, .inl (cI, 512, .inl (fa))), (hsu, .inl (cI, 512, .inl (fs))), (hbase, .inl (cB, 256, .inl (fb))), (htx9, .inl (cB, 256, .inl (ft))), (hot, .inl (cB, 256, .inl (fo))), (hbu, .inl (cB, 256, .inl ((fbu)))), (hmade, .inl (cB, 256, .inl ((f))))] H := hP
                  replace hD : va_D A [(h0, .inr (7, [.int 0, .int 0, .int la_22, .ref hbu, .int (nI σ.buf.length), .int (nI σ.nd), .ref hgo, .ref hfi, .ref hma, .ref hln, .ref hau, .ref hsu, .ref hrow, .ref hmade, .int (nI 0), .ref hbase, .int z_baseSize, .ref htx9, .int z_textSize, .int σ.stp, .ref hot, .int z_otherSize, .ref hpc, .int (nI q2_9), .int z_at, .int z_end, .int z_value])), (hrow, .inl (cB, 16384, .inl ((cpw (shu fr q2_9 ((bgs (lnq (pqS σ.ds)) (64 * i + d.count)) + q2_9)) g2_10 (bgs (lnq (pqS σ.ds)) (64 * i + d.count)) q2_9)))), (hpc, .inl (cB, 600, .inl (g2_10))), (hgo, .inl (cZ, 8, .inl (fg))), (hfi, .inl (cI, 8, .inl (ff))), (hma, .inl (cI, 8, .inl (fm))), (hln, .inl (cL, 512, .inl (fl))), (hau, .inl (cI, 512, .inl (fa))), (hsu, .inl (cI, 512, .inl (fs))), (hbase, .inl (cB, 256, .inl (fb))), (htx9, .inl (cB, 256, .inl (ft))), (hot, .inl (cB, 256, .inl (fo))), (hbu, .inl (cB, 256, .inl ((fbu)))), (hmade, .inl (cB, 256, .inl ((f))))] := hD
                  have hl := lv_sub hl [1, 2, 3, 4, 5] rfl
                  have hl : lv_has ls 7 [(0, .ref h0), (1, .int (nI i)), (2, .int a2), (3, .int (nI d.count)), (4, .int (nI (64 * i + d.count)))] := hl
                  refine lv_aload_n hx hb d_O_commit_202 rfl (lv_at hl 0 rfl) ?_
                  refine va_get (D := (dC, dI)) (ci := 7) (v := .ref hln) (C := R_O) (T := F_O) (N := 27) hx hb hw0 in_O hown hK hP 0 rfl rfl 9 (by decide) (hw0 (.fieldLink R_O 28 "TextKeeperModel" "lengths" "[S") wm_289) (fun _ h9 => h9) rfl d_O_commit_203 ?_
                  refine lv_iload hx hb d_O_commit_206 (lv_at hl 4 rfl) ?_
                  refine lv_aload_n hx hb d_O_commit_208 rfl (lv_at hl 0 rfl) ?_
                  refine va_get (D := (dC, dI)) (ci := 7) (v := .int (nI q2_9)) (C := R_O) (T := F_O) (N := 27) hx hb hw0 in_O hown hK hP 0 rfl rfl 23 (by decide) (hw0 (.fieldLink R_O 125 "TextKeeperModel" "pieceSize" "I") wm_239) (fun _ h9 => h9) rfl d_O_commit_209 ?_
                  obtain ⟨x_27, ex_27⟩ : ∃ y : Int32, (nI q2_9).toInt16.toInt32 = y := ⟨_, rfl⟩
                  refine lv_i2s (v := x_27) hx hb d_O_commit_212 ex_27 ?_
                  refine va_sast hx hb hK hP hD hS 6 2 rfl rfl (vp_in_nI (by omega) (by decide)) d_O_commit_213 (fun H locs hP hD hS => ?_)
                  replace hP : va_P (dC, dI) vwCl [(h0, .inr (7, [.int 0, .int 0, .int la_22, .ref hbu, .int (nI σ.buf.length), .int (nI σ.nd), .ref hgo, .ref hfi, .ref hma, .ref hln, .ref hau, .ref hsu, .ref hrow, .ref hmade, .int (nI 0), .ref hbase, .int z_baseSize, .ref htx9, .int z_textSize, .int σ.stp, .ref hot, .int z_otherSize, .ref hpc, .int (nI q2_9), .int z_at, .int z_end, .int z_value])), (hrow, .inl (cB, 16384, .inl ((cpw (shu fr q2_9 ((bgs (lnq (pqS σ.ds)) (64 * i + d.count)) + q2_9)) g2_10 (bgs (lnq (pqS σ.ds)) (64 * i + d.count)) q2_9)))), (hpc, .inl (cB, 600, .inl (g2_10))), (hgo, .inl (cZ, 8, .inl (fg))), (hfi, .inl (cI, 8, .inl (ff))), (hma, .inl (cI, 8, .inl (fm))), (hln, .inl (cL, 512, .inl (upd (fl) (Int32.toNatClampNeg (nI (64 * i + d.count))) (vp_nar .short (x_27))))), (hau, .inl (cI, 512, .inl (fa))), (hsu, .inl (cI, 512, .inl (fs))), (hbase, .inl (cB, 256, .inl (fb))), (htx9, .inl (cB, 256, .inl (ft))), (hot, .inl (cB, 256, .inl (fo))), (hbu, .inl (cB, 256, .inl ((fbu)))), (hmade, .inl (cB, 256, .inl ((f))))] H := hP
                  replace hD : va_D A [(h0, .inr (7, [.int 0, .int 0, .int la_22, .ref hbu, .int (nI σ.buf.length), .int (nI σ.nd), .ref hgo, .ref hfi, .ref hma, .ref hln, .ref hau, .ref hsu, .ref hrow, .ref hmade, .int (nI 0), .ref hbase, .int z_baseSize, .ref htx9, .int z_textSize, .int σ.stp, .ref hot, .int z_otherSize, .ref hpc, .int (nI q2_9), .int z_at, .int z_end, .int z_value])), (hrow, .inl (cB, 16384, .inl ((cpw (shu fr q2_9 ((bgs (lnq (pqS σ.ds)) (64 * i + d.count)) + q2_9)) g2_10 (bgs (lnq (pqS σ.ds)) (64 * i + d.count)) q2_9)))), (hpc, .inl (cB, 600, .inl (g2_10))), (hgo, .inl (cZ, 8, .inl (fg))), (hfi, .inl (cI, 8, .inl (ff))), (hma, .inl (cI, 8, .inl (fm))), (hln, .inl (cL, 512, .inl (upd (fl) (Int32.toNatClampNeg (nI (64 * i + d.count))) (vp_nar .short (x_27))))), (hau, .inl (cI, 512, .inl (fa))), (hsu, .inl (cI, 512, .inl (fs))), (hbase, .inl (cB, 256, .inl (fb))), (htx9, .inl (cB, 256, .inl (ft))), (hot, .inl (cB, 256, .inl (fo))), (hbu, .inl (cB, 256, .inl ((fbu)))), (hmade, .inl (cB, 256, .inl ((f))))] := hD
                  have eS : upd (fl) (Int32.toNatClampNeg (nI (64 * i + d.count))) (vp_nar .short (x_27)) = upd fl (64 * i + d.count) (nI q2_9) := by rw [nI_clamp (by omega)] <;> exact congrArg (upd fl (64 * i + d.count)) (by rw [show vp_nar .short x_27 = x_27.toInt16.toInt32 from vp_nar_short x_27, ← ex_27, i2s_512 (by omega)]; exact i2s_512 (by omega))
                  rw [eS] at hP hD
                  refine lv_aload_n hx hb d_O_commit_214 rfl (lv_at hl 0 rfl) ?_
                  refine va_get (D := (dC, dI)) (ci := 7) (v := .ref hau) (C := R_O) (T := F_O) (N := 27) hx hb hw0 in_O hown hK hP 0 rfl rfl 10 (by decide) (hw0 (.fieldLink R_O 32 "TextKeeperModel" "authors" "[I") wm_393) (fun _ h9 => h9) rfl d_O_commit_215 ?_
                  refine lv_iload hx hb d_O_commit_218 (lv_at hl 4 rfl) ?_
                  refine lv_iload_n hx hb d_O_commit_220 rfl (lv_at hl 2 rfl) ?_
                  refine va_iast hx hb hK hP hD hS 7 1 rfl rfl (vp_in_nI (by omega) (by decide)) d_O_commit_221 (fun H locs hP hD hS => ?_)
                  replace hP : va_P (dC, dI) vwCl [(h0, .inr (7, [.int 0, .int 0, .int la_22, .ref hbu, .int (nI σ.buf.length), .int (nI σ.nd), .ref hgo, .ref hfi, .ref hma, .ref hln, .ref hau, .ref hsu, .ref hrow, .ref hmade, .int (nI 0), .ref hbase, .int z_baseSize, .ref htx9, .int z_textSize, .int σ.stp, .ref hot, .int z_otherSize, .ref hpc, .int (nI q2_9), .int z_at, .int z_end, .int z_value])), (hrow, .inl (cB, 16384, .inl ((cpw (shu fr q2_9 ((bgs (lnq (pqS σ.ds)) (64 * i + d.count)) + q2_9)) g2_10 (bgs (lnq (pqS σ.ds)) (64 * i + d.count)) q2_9)))), (hpc, .inl (cB, 600, .inl (g2_10))), (hgo, .inl (cZ, 8, .inl (fg))), (hfi, .inl (cI, 8, .inl (ff))), (hma, .inl (cI, 8, .inl (fm))), (hln, .inl (cL, 512, .inl ((upd fl (64 * i + d.count) (nI q2_9))))), (hau, .inl (cI, 512, .inl (upd (fa) (Int32.toNatClampNeg (nI (64 * i + d.count))) (a2)))), (hsu, .inl (cI, 512, .inl (fs))), (hbase, .inl (cB, 256, .inl (fb))), (htx9, .inl (cB, 256, .inl (ft))), (hot, .inl (cB, 256, .inl (fo))), (hbu, .inl (cB, 256, .inl ((fbu)))), (hmade, .inl (cB, 256, .inl ((f))))] H := hP
                  replace hD : va_D A [(h0, .inr (7, [.int 0, .int 0, .int la_22, .ref hbu, .int (nI σ.buf.length), .int (nI σ.nd), .ref hgo, .ref hfi, .ref hma, .ref hln, .ref hau, .ref hsu, .ref hrow, .ref hmade, .int (nI 0), .ref hbase, .int z_baseSize, .ref htx9, .int z_textSize, .int σ.stp, .ref hot, .int z_otherSize, .ref hpc, .int (nI q2_9), .int z_at, .int z_end, .int z_value])), (hrow, .inl (cB, 16384, .inl ((cpw (shu fr q2_9 ((bgs (lnq (pqS σ.ds)) (64 * i + d.count)) + q2_9)) g2_10 (bgs (lnq (pqS σ.ds)) (64 * i + d.count)) q2_9)))), (hpc, .inl (cB, 600, .inl (g2_10))), (hgo, .inl (cZ, 8, .inl (fg))), (hfi, .inl (cI, 8, .inl (ff))), (hma, .inl (cI, 8, .inl (fm))), (hln, .inl (cL, 512, .inl ((upd fl (64 * i + d.count) (nI q2_9))))), (hau, .inl (cI, 512, .inl (upd (fa) (Int32.toNatClampNeg (nI (64 * i + d.count))) (a2)))), (hsu, .inl (cI, 512, .inl (fs))), (hbase, .inl (cB, 256, .inl (fb))), (htx9, .inl (cB, 256, .inl (ft))), (hot, .inl (cB, 256, .inl (fo))), (hbu, .inl (cB, 256, .inl ((fbu)))), (hmade, .inl (cB, 256, .inl ((f))))] := hD
                  have eS : upd (fa) (Int32.toNatClampNeg (nI (64 * i + d.count))) (a2) = upd fa (64 * i + d.count) a2 := by rw [nI_clamp (by omega)] <;> exact congrArg (upd fa (64 * i + d.count)) (rfl)
                  rw [eS] at hP hD
                  refine lv_aload_n hx hb d_O_commit_222 rfl (lv_at hl 0 rfl) ?_
                  refine va_get (D := (dC, dI)) (ci := 7) (v := .ref hsu) (C := R_O) (T := F_O) (N := 27) hx hb hw0 in_O hown hK hP 0 rfl rfl 11 (by decide) (hw0 (.fieldLink R_O 35 "TextKeeperModel" "sums" "[I") wm_394) (fun _ h9 => h9) rfl d_O_commit_223 ?_
                  refine lv_iload hx hb d_O_commit_226 (lv_at hl 4 rfl) ?_
                  refine lv_aload_n hx hb d_O_commit_228 rfl (lv_at hl 0 rfl) ?_
                  refine lv_aload_n hx hb d_O_commit_229 rfl (lv_at hl 0 rfl) ?_
                  refine va_get (D := (dC, dI)) (ci := 7) (v := .ref hbu) (C := R_O) (T := F_O) (N := 27) hx hb hw0 in_O hown hK hP 0 rfl rfl 3 (by decide) (hw0 (.fieldLink R_O 13 "TextKeeperModel" "buffer" "[B") wm_247) (fun _ h9 => h9) rfl d_O_commit_230 ?_
                  refine lv_aload_n hx hb d_O_commit_233 rfl (lv_at hl 0 rfl) ?_
                  refine va_get (D := (dC, dI)) (ci := 7) (v := .int (nI σ.buf.length)) (C := R_O) (T := F_O) (N := 27) hx hb hw0 in_O hown hK hP 0 rfl rfl 4 (by decide) (hw0 (.fieldLink R_O 69 "TextKeeperModel" "size" "I") wm_245) (fun _ h9 => h9) rfl d_O_commit_234 ?_
                  have hPc := hP.sub (ws' := [(h0, .inr (7, [.int 0, .int 0, .int la_22, .ref hbu, .int (nI σ.buf.length), .int (nI σ.nd), .ref hgo, .ref hfi, .ref hma, .ref hln, .ref hau, .ref hsu, .ref hrow, .ref hmade, .int (nI 0), .ref hbase, .int z_baseSize, .ref htx9, .int z_textSize, .int σ.stp, .ref hot, .int z_otherSize, .ref hpc, .int (nI q2_9), .int z_at, .int z_end, .int z_value])), (hbu, .inl (cB, 256, .inl (((fbu)))))]) [0, 12] rfl
                  have hKc := hK.sub (tys' := [(cB, .byte)]) [0] rfl
                  refine ps_i (va_runV (As := [.ref hbu, .int (nI σ.buf.length)]) (rest := [.int (nI (64 * i + d.count)), .ref hsu]) ⟨hx, hb, hml, hown, hw0⟩ (o_sum l dC dI h0 0 0 la_22 (.ref hbu) (nI σ.buf.length) (nI σ.nd) (.ref hgo) (.ref hfi) (.ref hma) (.ref hln) (.ref hau) (.ref hsu) (.ref hrow) (.ref hmade) (nI 0) (.ref hbase) z_baseSize (.ref htx9) z_textSize σ.stp (.ref hot) z_otherSize (.ref hpc) (nI q2_9) z_at z_end z_value hbu cB σ.buf.length ((fbu)) σ.buf (by first | assumption | decide | omega) (by first | assumption | decide | omega)) (cwV 2 hw0 (gd_Vm wm_395 wm_396 wm_397 wm_243 wm_398) rfl rfl rfl (by decide +kernel) ⟨by decide +kernel, by decide +kernel⟩) (prV_R hPc hKc hN (va_recv hKc hPc (ci := 7) (q0 := 0) rfl rfl)) rfl rfl hl.1 rfl (lv_room (Nat.le_of_ble_eq_true rfl)) d_O_commit_237 ⟨by decide +kernel, by decide +kernel⟩) (fun r_28 hr_28 => ?_)
                  obtain rfl : r_28 = (sumL σ.buf) := hr_28
                  refine va_iast hx hb hK hP hD hS 8 1 rfl rfl (vp_in_nI (by omega) (by decide)) d_O_commit_240 (fun H locs hP hD hS => ?_)
                  replace hP : va_P (dC, dI) vwCl [(h0, .inr (7, [.int 0, .int 0, .int la_22, .ref hbu, .int (nI σ.buf.length), .int (nI σ.nd), .ref hgo, .ref hfi, .ref hma, .ref hln, .ref hau, .ref hsu, .ref hrow, .ref hmade, .int (nI 0), .ref hbase, .int z_baseSize, .ref htx9, .int z_textSize, .int σ.stp, .ref hot, .int z_otherSize, .ref hpc, .int (nI q2_9), .int z_at, .int z_end, .int z_value])), (hrow, .inl (cB, 16384, .inl ((cpw (shu fr q2_9 ((bgs (lnq (pqS σ.ds)) (64 * i + d.count)) + q2_9)) g2_10 (bgs (lnq (pqS σ.ds)) (64 * i + d.count)) q2_9)))), (hpc, .inl (cB, 600, .inl (g2_10))), (hgo, .inl (cZ, 8, .inl (fg))), (hfi, .inl (cI, 8, .inl (ff))), (hma, .inl (cI, 8, .inl (fm))), (hln, .inl (cL, 512, .inl ((upd fl (64 * i + d.count) (nI q2_9))))), (hau, .inl (cI, 512, .inl ((upd fa (64 * i + d.count) a2)))), (hsu, .inl (cI, 512, .inl (upd (fs) (Int32.toNatClampNeg (nI (64 * i + d.count))) ((sumL σ.buf))))), (hbase, .inl (cB, 256, .inl (fb))), (htx9, .inl (cB, 256, .inl (ft))), (hot, .inl (cB, 256, .inl (fo))), (hbu, .inl (cB, 256, .inl ((fbu)))), (hmade, .inl (cB, 256, .inl ((f))))] H := hP
                  replace hD : va_D A [(h0, .inr (7, [.int 0, .int 0, .int la_22, .ref hbu, .int (nI σ.buf.length), .int (nI σ.nd), .ref hgo, .ref hfi, .ref hma, .ref hln, .ref hau, .ref hsu, .ref hrow, .ref hmade, .int (nI 0), .ref hbase, .int z_baseSize, .ref htx9, .int z_textSize, .int σ.stp, .ref hot, .int z_otherSize, .ref hpc, .int (nI q2_9), .int z_at, .int z_end, .int z_value])), (hrow, .inl (cB, 16384, .inl ((cpw (shu fr q2_9 ((bgs (lnq (pqS σ.ds)) (64 * i + d.count)) + q2_9)) g2_10 (bgs (lnq (pqS σ.ds)) (64 * i + d.count)) q2_9)))), (hpc, .inl (cB, 600, .inl (g2_10))), (hgo, .inl (cZ, 8, .inl (fg))), (hfi, .inl (cI, 8, .inl (ff))), (hma, .inl (cI, 8, .inl (fm))), (hln, .inl (cL, 512, .inl ((upd fl (64 * i + d.count) (nI q2_9))))), (hau, .inl (cI, 512, .inl ((upd fa (64 * i + d.count) a2)))), (hsu, .inl (cI, 512, .inl (upd (fs) (Int32.toNatClampNeg (nI (64 * i + d.count))) ((sumL σ.buf))))), (hbase, .inl (cB, 256, .inl (fb))), (htx9, .inl (cB, 256, .inl (ft))), (hot, .inl (cB, 256, .inl (fo))), (hbu, .inl (cB, 256, .inl ((fbu)))), (hmade, .inl (cB, 256, .inl ((f))))] := hD
                  have eS : upd (fs) (Int32.toNatClampNeg (nI (64 * i + d.count))) ((sumL σ.buf)) = upd fs (64 * i + d.count) (sumL σ.buf) := by rw [nI_clamp (by omega)] <;> exact congrArg (upd fs (64 * i + d.count)) (rfl)
                  rw [eS] at hP hD
                  refine lv_aload_n hx hb d_O_commit_241 rfl (lv_at hl 0 rfl) ?_
                  refine va_get (D := (dC, dI)) (ci := 7) (v := .ref hma) (C := R_O) (T := F_O) (N := 27) hx hb hw0 in_O hown hK hP 0 rfl rfl 8 (by decide) (hw0 (.fieldLink R_O 25 "TextKeeperModel" "many" "[I") wm_339) (fun _ h9 => h9) rfl d_O_commit_242 ?_
                  refine lv_iload_n hx hb d_O_commit_245 rfl (lv_at hl 1 rfl) ?_
                  refine lv_dup2_11 hx hb d_O_commit_246 rfl rfl ?_
                  refine va_iald hx hb hK hP 5 1 rfl rfl (vp_in_nI (by omega) (by decide)) d_O_commit_247 ?_
                  refine lv_topi (fun x_29 ex_29 => ?_)
                  obtain rfl : x_29 = nI d.count := by rw [ex_29, nI_clamp (by omega), hfm] <;> rfl
                  clear ex_29
                  refine lv_iconst (v := 1) hx hb d_O_commit_248 (by decide) ?_
                  refine lv_iadd hx hb d_O_commit_249 ?_
                  refine lv_topi (fun x_30 ex_30 => ?_)
                  obtain rfl : x_30 = (nI (d.count + 1)) := by rw [ex_30]; exact nI_1 _
                  clear ex_30
                  refine va_iast hx hb hK hP hD hS 5 1 rfl rfl (vp_in_nI (by omega) (by decide)) d_O_commit_250 (fun H locs hP hD hS => ?_)
                  replace hP : va_P (dC, dI) vwCl [(h0, .inr (7, [.int 0, .int 0, .int la_22, .ref hbu, .int (nI σ.buf.length), .int (nI σ.nd), .ref hgo, .ref hfi, .ref hma, .ref hln, .ref hau, .ref hsu, .ref hrow, .ref hmade, .int (nI 0), .ref hbase, .int z_baseSize, .ref htx9, .int z_textSize, .int σ.stp, .ref hot, .int z_otherSize, .ref hpc, .int (nI q2_9), .int z_at, .int z_end, .int z_value])), (hrow, .inl (cB, 16384, .inl ((cpw (shu fr q2_9 ((bgs (lnq (pqS σ.ds)) (64 * i + d.count)) + q2_9)) g2_10 (bgs (lnq (pqS σ.ds)) (64 * i + d.count)) q2_9)))), (hpc, .inl (cB, 600, .inl (g2_10))), (hgo, .inl (cZ, 8, .inl (fg))), (hfi, .inl (cI, 8, .inl (ff))), (hma, .inl (cI, 8, .inl (upd (fm) (Int32.toNatClampNeg (nI i)) ((nI (d.count + 1)))))), (hln, .inl (cL, 512, .inl ((upd fl (64 * i + d.count) (nI q2_9))))), (hau, .inl (cI, 512, .inl ((upd fa (64 * i + d.count) a2)))), (hsu, .inl (cI, 512, .inl ((upd fs (64 * i + d.count) (sumL σ.buf))))), (hbase, .inl (cB, 256, .inl (fb))), (htx9, .inl (cB, 256, .inl (ft))), (hot, .inl (cB, 256, .inl (fo))), (hbu, .inl (cB, 256, .inl ((fbu)))), (hmade, .inl (cB, 256, .inl ((f))))] H := hP
                  replace hD : va_D A [(h0, .inr (7, [.int 0, .int 0, .int la_22, .ref hbu, .int (nI σ.buf.length), .int (nI σ.nd), .ref hgo, .ref hfi, .ref hma, .ref hln, .ref hau, .ref hsu, .ref hrow, .ref hmade, .int (nI 0), .ref hbase, .int z_baseSize, .ref htx9, .int z_textSize, .int σ.stp, .ref hot, .int z_otherSize, .ref hpc, .int (nI q2_9), .int z_at, .int z_end, .int z_value])), (hrow, .inl (cB, 16384, .inl ((cpw (shu fr q2_9 ((bgs (lnq (pqS σ.ds)) (64 * i + d.count)) + q2_9)) g2_10 (bgs (lnq (pqS σ.ds)) (64 * i + d.count)) q2_9)))), (hpc, .inl (cB, 600, .inl (g2_10))), (hgo, .inl (cZ, 8, .inl (fg))), (hfi, .inl (cI, 8, .inl (ff))), (hma, .inl (cI, 8, .inl (upd (fm) (Int32.toNatClampNeg (nI i)) ((nI (d.count + 1)))))), (hln, .inl (cL, 512, .inl ((upd fl (64 * i + d.count) (nI q2_9))))), (hau, .inl (cI, 512, .inl ((upd fa (64 * i + d.count) a2)))), (hsu, .inl (cI, 512, .inl ((upd fs (64 * i + d.count) (sumL σ.buf))))), (hbase, .inl (cB, 256, .inl (fb))), (htx9, .inl (cB, 256, .inl (ft))), (hot, .inl (cB, 256, .inl (fo))), (hbu, .inl (cB, 256, .inl ((fbu)))), (hmade, .inl (cB, 256, .inl ((f))))] := hD
                  have eS : upd (fm) (Int32.toNatClampNeg (nI i)) ((nI (d.count + 1))) = upd fm i (nI (d.count + 1)) := by rw [nI_clamp (by omega)] <;> exact congrArg (upd fm i) (rfl)
                  rw [eS] at hP hD
                  refine lv_aload_n hx hb d_O_commit_251 rfl (lv_at hl 0 rfl) ?_
                  refine lv_iconst (v := 0) hx hb d_O_commit_252 (by decide) ?_
                  refine va_put (D := (dC, dI)) (ci := 7) (v := .int 0) (ty := .int) (C := R_O) (T := F_O) (N := 27) hx hb hw0 in_O ft_O tk_O nk_O hown hK hP hD hS 0 rfl rfl 4 (by decide) (hw0 (.fieldLink R_O 69 "TextKeeperModel" "size" "I") wm_245) (fun _ h9 => h9) rfl (by decide +kernel) rfl rfl (Nat.le_of_ble_eq_true rfl) d_O_commit_253 (fun H locs hP hD hS => ?_)
                  replace hP : va_P (dC, dI) vwCl [(h0, .inr (7, [.int 0, .int 0, .int la_22, .ref hbu, .int 0, .int (nI σ.nd), .ref hgo, .ref hfi, .ref hma, .ref hln, .ref hau, .ref hsu, .ref hrow, .ref hmade, .int (nI 0), .ref hbase, .int z_baseSize, .ref htx9, .int z_textSize, .int σ.stp, .ref hot, .int z_otherSize, .ref hpc, .int (nI q2_9), .int z_at, .int z_end, .int z_value])), (hrow, .inl (cB, 16384, .inl ((cpw (shu fr q2_9 ((bgs (lnq (pqS σ.ds)) (64 * i + d.count)) + q2_9)) g2_10 (bgs (lnq (pqS σ.ds)) (64 * i + d.count)) q2_9)))), (hpc, .inl (cB, 600, .inl (g2_10))), (hgo, .inl (cZ, 8, .inl (fg))), (hfi, .inl (cI, 8, .inl (ff))), (hma, .inl (cI, 8, .inl ((upd fm i (nI (d.count + 1)))))), (hln, .inl (cL, 512, .inl ((upd fl (64 * i + d.count) (nI q2_9))))), (hau, .inl (cI, 512, .inl ((upd fa (64 * i + d.count) a2)))), (hsu, .inl (cI, 512, .inl ((upd fs (64 * i + d.count) (sumL σ.buf))))), (hbase, .inl (cB, 256, .inl (fb))), (htx9, .inl (cB, 256, .inl (ft))), (hot, .inl (cB, 256, .inl (fo))), (hbu, .inl (cB, 256, .inl ((fbu)))), (hmade, .inl (cB, 256, .inl ((f))))] H := hP
                  replace hD : va_D A [(h0, .inr (7, [.int 0, .int 0, .int la_22, .ref hbu, .int 0, .int (nI σ.nd), .ref hgo, .ref hfi, .ref hma, .ref hln, .ref hau, .ref hsu, .ref hrow, .ref hmade, .int (nI 0), .ref hbase, .int z_baseSize, .ref htx9, .int z_textSize, .int σ.stp, .ref hot, .int z_otherSize, .ref hpc, .int (nI q2_9), .int z_at, .int z_end, .int z_value])), (hrow, .inl (cB, 16384, .inl ((cpw (shu fr q2_9 ((bgs (lnq (pqS σ.ds)) (64 * i + d.count)) + q2_9)) g2_10 (bgs (lnq (pqS σ.ds)) (64 * i + d.count)) q2_9)))), (hpc, .inl (cB, 600, .inl (g2_10))), (hgo, .inl (cZ, 8, .inl (fg))), (hfi, .inl (cI, 8, .inl (ff))), (hma, .inl (cI, 8, .inl ((upd fm i (nI (d.count + 1)))))), (hln, .inl (cL, 512, .inl ((upd fl (64 * i + d.count) (nI q2_9))))), (hau, .inl (cI, 512, .inl ((upd fa (64 * i + d.count) a2)))), (hsu, .inl (cI, 512, .inl ((upd fs (64 * i + d.count) (sumL σ.buf))))), (hbase, .inl (cB, 256, .inl (fb))), (htx9, .inl (cB, 256, .inl (ft))), (hot, .inl (cB, 256, .inl (fo))), (hbu, .inl (cB, 256, .inl ((fbu)))), (hmade, .inl (cB, 256, .inl ((f))))] := hD
                  refine lv_iload_n hx hb d_O_commit_256 rfl (lv_at hl 3 rfl) ?_
                  have hσ : (sCommit σ (nI i) a2) = (sgC τ (va_up σ.ds i (some ⟨d.first, d.count + 1, va_up d.rv d.count (some ⟨pce σ.buf Bt, a2, sumL σ.buf⟩)⟩)), 0, nI d.count) := (by unfold sCommit; rw [if_neg (by rw [hdw]; decide), hdg]; refine (if_neg (by omega)).trans ?_; rw [hba]; refine (if_neg (by rw [hlen]; omega)).trans ?_; rw [hlen, hsp])
                  have hP9 := hP.sub (ws' := [(h0, .inr (7, [.int 0, .int 0, .int la_22, .ref hbu, .int 0, .int (nI σ.nd), .ref hgo, .ref hfi, .ref hma, .ref hln, .ref hau, .ref hsu, .ref hrow, .ref hmade, .int (nI 0), .ref hbase, .int z_baseSize, .ref htx9, .int z_textSize, .int σ.stp, .ref hot, .int z_otherSize, .ref hpc, .int (nI q2_9), .int z_at, .int z_end, .int z_value])), (hbu, .inl (cB, 256, .inl ((fbu)))), (hgo, .inl (cZ, 8, .inl (fg))), (hfi, .inl (cI, 8, .inl (ff))), (hma, .inl (cI, 8, .inl ((upd fm i (nI (d.count + 1)))))), (hln, .inl (cL, 512, .inl ((upd fl (64 * i + d.count) (nI q2_9))))), (hau, .inl (cI, 512, .inl ((upd fa (64 * i + d.count) a2)))), (hsu, .inl (cI, 512, .inl ((upd fs (64 * i + d.count) (sumL σ.buf))))), (hrow, .inl (cB, 16384, .inl ((cpw (shu fr q2_9 ((bgs (lnq (pqS σ.ds)) (64 * i + d.count)) + q2_9)) g2_10 (bgs (lnq (pqS σ.ds)) (64 * i + d.count)) q2_9)))), (hmade, .inl (cB, 256, .inl ((f)))), (hbase, .inl (cB, 256, .inl (fb))), (htx9, .inl (cB, 256, .inl (ft))), (hot, .inl (cB, 256, .inl (fo))), (hpc, .inl (cB, 600, .inl (g2_10)))]) [0, 12, 3, 4, 5, 6, 7, 8, 1, 13, 9, 10, 11, 2] rfl
                  have hD9 := hD.sub (ws' := [(h0, .inr (7, [.int 0, .int 0, .int la_22, .ref hbu, .int 0, .int (nI σ.nd), .ref hgo, .ref hfi, .ref hma, .ref hln, .ref hau, .ref hsu, .ref hrow, .ref hmade, .int (nI 0), .ref hbase, .int z_baseSize, .ref htx9, .int z_textSize, .int σ.stp, .ref hot, .int z_otherSize, .ref hpc, .int (nI q2_9), .int z_at, .int z_end, .int z_value])), (hbu, .inl (cB, 256, .inl ((fbu)))), (hgo, .inl (cZ, 8, .inl (fg))), (hfi, .inl (cI, 8, .inl (ff))), (hma, .inl (cI, 8, .inl ((upd fm i (nI (d.count + 1)))))), (hln, .inl (cL, 512, .inl ((upd fl (64 * i + d.count) (nI q2_9))))), (hau, .inl (cI, 512, .inl ((upd fa (64 * i + d.count) a2)))), (hsu, .inl (cI, 512, .inl ((upd fs (64 * i + d.count) (sumL σ.buf))))), (hrow, .inl (cB, 16384, .inl ((cpw (shu fr q2_9 ((bgs (lnq (pqS σ.ds)) (64 * i + d.count)) + q2_9)) g2_10 (bgs (lnq (pqS σ.ds)) (64 * i + d.count)) q2_9)))), (hmade, .inl (cB, 256, .inl ((f)))), (hbase, .inl (cB, 256, .inl (fb))), (htx9, .inl (cB, 256, .inl (ft))), (hot, .inl (cB, 256, .inl (fo))), (hpc, .inl (cB, 600, .inl (g2_10)))]) [0, 12, 3, 4, 5, 6, 7, 8, 1, 13, 9, 10, 11, 2] (by decide) rfl
                  have hK9 := hK.sub (tys' := mT cB cI cL cZ) [0, 1, 2, 3] rfl
                  exact W.iret (v := (nI d.count)) hx hb hr (fun t ht hW => ⟨⟨(nI d.count), (), rfl, (fun _ => (congrArg (fun z => z.2.2) hσ).symm), ⟨⟨hbu, hgo, hfi, hma, hln, hau, hsu, hrow, hmade, hbase, htx9, hot, hpc, 0, 0, la_22, 0, (nI σ.nd), (nI 0), z_baseSize, z_textSize, σ.stp, z_otherSize, (nI q2_9), z_at, z_end, z_value, (fbu), fg, ff, (upd fm i (nI (d.count + 1))), (upd fl (64 * i + d.count) (nI q2_9)), (upd fa (64 * i + d.count) a2), (upd fs (64 * i + d.count) (sumL σ.buf)), (cpw (shu fr q2_9 ((bgs (lnq (pqS σ.ds)) (64 * i + d.count)) + q2_9)) g2_10 (bgs (lnq (pqS σ.ds)) (64 * i + d.count)) q2_9), (f), fb, ft, fo, g2_10⟩, ⟨(by rw [hσ]; exact (by subst hτ; exact (mOk.mk hm_dw hu_23 rfl (tx_nil _) hm_nd (up_gn hdi hm_gn) (up_fm hd9 hm_fm (fun k hk => ⟨rfl, pk_un hk⟩) ⟨hff, pk_us⟩) (by rw [← (pqS_rv (a := d.first) (b := d.count + 1) (v := ⟨pce σ.buf Bt, a2, sumL σ.buf⟩) hdi hc64)]; exact lnq_put hfl hlen) (by rw [← (pqS_rv (a := d.first) (b := d.count + 1) (v := ⟨pce σ.buf Bt, a2, sumL σ.buf⟩) hdi hc64)]; exact hrow2) (up_au hm_au (fun k j hk hj => ⟨pk_un (by omega), pk_un (by omega)⟩) (cm_au (v := ⟨pce σ.buf Bt, a2, sumL σ.buf⟩) hm_au hi8 hdi)) hm_tq hm_st))), (congrArg (fun z => z.2.1) hσ).symm⟩, by rw [ht]; exact hP9, va_K.moved hW.alike hK9, hD9⟩⟩, hS.F ht⟩) hS.2.2 d_O_commit_257
              · have hnoroom : ¬ blk q2_9 ≤ 512 - usd σ.ds 8 := (fun z => c_14 (nI_le z (by omega)))
                refine lv_iconst (v := (-1)) hx hb d_O_commit_89 (by decide) ?_
                have hσ : (sCommit σ (nI i) a2) = (σ, 0, (-1)) := (by unfold sCommit; rw [if_neg (by rw [hdw]; decide), hdg]; refine (if_neg (by omega)).trans ?_; rw [hba]; exact if_pos (by rw [hlen]; omega))
                have hP9 := hP.sub (ws' := [(h0, .inr (7, [.int 0, .int 0, .int (vI σ.go), .ref hbu, .int (nI σ.buf.length), .int (nI σ.nd), .ref hgo, .ref hfi, .ref hma, .ref hln, .ref hau, .ref hsu, .ref hrow, .ref hmade, .int (nI 0), .ref hbase, .int z_baseSize, .ref htx9, .int z_textSize, .int σ.stp, .ref hot, .int z_otherSize, .ref hpc, .int (nI q2_9), .int z_at, .int z_end, .int z_value])), (hbu, .inl (cB, 256, .inl ((fbu)))), (hgo, .inl (cZ, 8, .inl (fg))), (hfi, .inl (cI, 8, .inl (ff))), (hma, .inl (cI, 8, .inl (fm))), (hln, .inl (cL, 512, .inl (fl))), (hau, .inl (cI, 512, .inl (fa))), (hsu, .inl (cI, 512, .inl (fs))), (hrow, .inl (cB, 16384, .inl (fr))), (hmade, .inl (cB, 256, .inl ((f)))), (hbase, .inl (cB, 256, .inl (fb))), (htx9, .inl (cB, 256, .inl (ft))), (hot, .inl (cB, 256, .inl (fo))), (hpc, .inl (cB, 600, .inl (g2_10)))]) [10, 12, 0, 1, 2, 3, 4, 5, 6, 13, 7, 8, 9, 11] rfl
                have hD9 := hD.sub (ws' := [(h0, .inr (7, [.int 0, .int 0, .int (vI σ.go), .ref hbu, .int (nI σ.buf.length), .int (nI σ.nd), .ref hgo, .ref hfi, .ref hma, .ref hln, .ref hau, .ref hsu, .ref hrow, .ref hmade, .int (nI 0), .ref hbase, .int z_baseSize, .ref htx9, .int z_textSize, .int σ.stp, .ref hot, .int z_otherSize, .ref hpc, .int (nI q2_9), .int z_at, .int z_end, .int z_value])), (hbu, .inl (cB, 256, .inl ((fbu)))), (hgo, .inl (cZ, 8, .inl (fg))), (hfi, .inl (cI, 8, .inl (ff))), (hma, .inl (cI, 8, .inl (fm))), (hln, .inl (cL, 512, .inl (fl))), (hau, .inl (cI, 512, .inl (fa))), (hsu, .inl (cI, 512, .inl (fs))), (hrow, .inl (cB, 16384, .inl (fr))), (hmade, .inl (cB, 256, .inl ((f)))), (hbase, .inl (cB, 256, .inl (fb))), (htx9, .inl (cB, 256, .inl (ft))), (hot, .inl (cB, 256, .inl (fo))), (hpc, .inl (cB, 600, .inl (g2_10)))]) [10, 12, 0, 1, 2, 3, 4, 5, 6, 13, 7, 8, 9, 11] (by decide) rfl
                have hK9 := hK.sub (tys' := mT cB cI cL cZ) [0, 1, 2, 3] rfl
                exact W.iret (v := (-1)) hx hb hr (fun t ht hW => ⟨⟨(-1), (), rfl, (fun _ => (congrArg (fun z => z.2.2) hσ).symm), ⟨⟨hbu, hgo, hfi, hma, hln, hau, hsu, hrow, hmade, hbase, htx9, hot, hpc, 0, 0, (vI σ.go), (nI σ.buf.length), (nI σ.nd), (nI 0), z_baseSize, z_textSize, σ.stp, z_otherSize, (nI q2_9), z_at, z_end, z_value, (fbu), fg, ff, fm, fl, fa, fs, fr, (f), fb, ft, fo, g2_10⟩, ⟨(by rw [hσ]; exact (mOk.mk hm_dw hm_la hm_sz hm_bf hm_nd hm_gn hm_fm hm_ln hm_rw hm_au hm_tq hm_st)), (congrArg (fun z => z.2.1) hσ).symm⟩, by rw [ht]; exact hP9, va_K.moved hW.alike hK9, hD9⟩⟩, hS.F ht⟩) hS.2.2 d_O_commit_90
        · have hz0 : 0 < d.count := (by rcases Nat.eq_zero_or_pos d.count with z | z; exact absurd (by rw [z]; decide) c_8; exact z)
          refine lv_aload_n hx hb d_O_commit_56 rfl (lv_at hl 1 rfl) ?_
          have hb64 := bs_nI d.count (by omega)
          have hpq : agn (pqF (pqS σ.ds) i) (bs d.count) = agn (dmP d) (bs d.count) := agn_pq (by omega) hdi
          have hba : bas d = agn (dmP d) (bs d.count) := if_neg (by omega)
          have hr64 : bs d.count < 64 := (by omega)
          rcases hag0 : agn (dmP d) (bs d.count) with _ | Bt
          · have hag := hpq.trans hag0
            have hba := hba.trans hag0
            refine lv_iload_n hx hb d_O_commit_57 rfl (lv_at hl 2 rfl) ?_
            refine lv_iload_n hx hb d_O_commit_58 rfl (lv_at hl 0 rfl) ?_
            refine lv_iload_n hx hb d_O_commit_59 rfl (lv_at hl 0 rfl) ?_
            refine lv_iconst (v := 1) hx hb d_O_commit_60 (by decide) ?_
            refine lv_isub hx hb d_O_commit_61 ?_
            refine lv_topi (fun x_31 ex_31 => ?_)
            refine lv_iand hx hb d_O_commit_62 ?_
            refine lv_topi (fun x_32 ex_32 => ?_)
            obtain rfl : x_32 = (nI (bs d.count)) := by rw [ex_32, ex_31]; exact (bs_nI d.count (by omega)).1
            clear ex_32
            have hPc := hP.sub (ws' := [(h0, .inr (7, [.int 0, .int 0, .int (vI σ.go), .ref hbu, .int (nI σ.buf.length), .int (nI σ.nd), .ref hgo, .ref hfi, .ref hma, .ref hln, .ref hau, .ref hsu, .ref hrow, .ref hmade, .int 0, .ref hbase, .int z_baseSize, .ref htx9, .int z_textSize, .int σ.stp, .ref hot, .int z_otherSize, .ref hpc, .int z_pieceSize, .int z_at, .int z_end, .int z_value])), (hmade, .inl (cB, 256, .inl ((f)))), (hbase, .inl (cB, 256, .inl ((fb)))), (hrow, .inl (cB, 16384, .inl ((fr)))), (hln, .inl (cL, 512, .inl ((fl))))]) [13, 8, 9, 7, 4] rfl
            have hKc := hK.sub (tys' := [(cB, .byte), (cL, .short)]) [0, 2] rfl
            have hDc := hD.sub (ws' := [(h0, .inr (7, [.int 0, .int 0, .int (vI σ.go), .ref hbu, .int (nI σ.buf.length), .int (nI σ.nd), .ref hgo, .ref hfi, .ref hma, .ref hln, .ref hau, .ref hsu, .ref hrow, .ref hmade, .int 0, .ref hbase, .int z_baseSize, .ref htx9, .int z_textSize, .int σ.stp, .ref hot, .int z_otherSize, .ref hpc, .int z_pieceSize, .int z_at, .int z_end, .int z_value])), (hmade, .inl (cB, 256, .inl ((f)))), (hbase, .inl (cB, 256, .inl ((fb)))), (hrow, .inl (cB, 16384, .inl ((fr)))), (hln, .inl (cL, 512, .inl ((fl))))]) [13, 8, 9, 7, 4] (by decide) rfl
            have hFc := va_free (wc := [(h0, .inr (7, [.int 0, .int 0, .int (vI σ.go), .ref hbu, .int (nI σ.buf.length), .int (nI σ.nd), .ref hgo, .ref hfi, .ref hma, .ref hln, .ref hau, .ref hsu, .ref hrow, .ref hmade, .int 0, .ref hbase, .int z_baseSize, .ref htx9, .int z_textSize, .int σ.stp, .ref hot, .int z_otherSize, .ref hpc, .int z_pieceSize, .int z_at, .int z_end, .int z_value])), (hmade, .inl (cB, 256, .inl ((f)))), (hbase, .inl (cB, 256, .inl ((fb)))), (hrow, .inl (cB, 16384, .inl ((fr)))), (hln, .inl (cL, 512, .inl ((fl))))]) hD hS hA [13, 8, 9, 7, 4] rfl
            refine va_calli (va_runV (As := [.int (nI i), .int (nI (bs d.count))]) (rest := []) ⟨hx, hb, hml, hown, hw0⟩ (o_again_N l dC dI H.size h0 0 0 (vI σ.go) (.ref hbu) (nI σ.buf.length) (nI σ.nd) (.ref hgo) (.ref hfi) (.ref hma) (.ref hau) (.ref hsu) 0 z_baseSize (.ref htx9) z_textSize σ.stp (.ref hot) z_otherSize (.ref hpc) z_pieceSize z_at z_end z_value hmade hbase cB (f) (fb) hrow (fr) hln cL (fl) (pqS σ.ds) i (bs d.count) (by first | assumption | decide | omega) (by first | assumption | decide | omega) (by first | assumption | decide | omega) (by first | assumption | decide | omega) (by first | assumption | decide | omega)) (cwV 2 hw0 (gd_Vm wm_385 wm_386 wm_387 wm_243 wm_388) rfl rfl rfl (by decide +kernel) ⟨by decide +kernel, by decide +kernel⟩) (prV_E hPc hKc hDc hN (va_recv hKc hPc (ci := 7) (q0 := 0) rfl rfl)) rfl rfl hl.1 rfl (lv_room (Nat.le_of_ble_eq_true rfl)) d_O_commit_63 ⟨by decide +kernel, by decide +kernel⟩) hS (fun q _ h => hFc q h) hFc (fun r_33 u t H1 locs ht hvm hw hB hz1 hk1 hS => ?_)
            obtain ⟨hmade2_34, hbase2_35, k2_36, f2_37, fb2_38, bz2_39, at2_40, en2_41, vv2_42, hu_43, hP1, hK1, hD1⟩ := hB
            rw [ht] at hP1
            have hK1 := va_K.moved hvm.symm hK1
            try dsimp only at hw
            obtain ⟨hP, hD⟩ := va_join (wr := [(hbu, .inl (cB, 256, .inl (fbu))), (hgo, .inl (cZ, 8, .inl (fg))), (hfi, .inl (cI, 8, .inl (ff))), (hma, .inl (cI, 8, .inl (fm))), (hau, .inl (cI, 512, .inl (fa))), (hsu, .inl (cI, 512, .inl (fs))), (htx9, .inl (cB, 256, .inl (ft))), (hot, .inl (cB, 256, .inl (fo))), (hpc, .inl (cB, 600, .inl (fp)))]) (w1 := [(h0, .inr (7, [.int 0, .int 0, .int (vI σ.go), .ref hbu, .int (nI σ.buf.length), .int (nI σ.nd), .ref hgo, .ref hfi, .ref hma, .ref hln, .ref hau, .ref hsu, .ref hrow, .ref hmade2_34, .int (nI k2_36), .ref hbase2_35, .int bz2_39, .ref htx9, .int z_textSize, .int σ.stp, .ref hot, .int z_otherSize, .ref hpc, .int z_pieceSize, .int at2_40, .int en2_41, .int vv2_42])), (hmade2_34, .inl (cB, 256, .inl (f2_37))), (hbase2_35, .inl (cB, 256, .inl (fb2_38))), (hrow, .inl (cB, 16384, .inl ((fr)))), (hln, .inl (cL, 512, .inl ((fl))))]) hP hD [13, 8, 9, 7, 4] [0, 1, 2, 3, 5, 6, 10, 11, 12] rfl rfl (by decide) (by decide) hk1 hFc hP1 hD1
            generalize H1 = H at hP hS ⊢
            replace hP : va_P (dC, dI) vwCl [(hbu, .inl (cB, 256, .inl (fbu))), (hgo, .inl (cZ, 8, .inl (fg))), (hfi, .inl (cI, 8, .inl (ff))), (hma, .inl (cI, 8, .inl (fm))), (hau, .inl (cI, 512, .inl (fa))), (hsu, .inl (cI, 512, .inl (fs))), (htx9, .inl (cB, 256, .inl (ft))), (hot, .inl (cB, 256, .inl (fo))), (hpc, .inl (cB, 600, .inl (fp))), (h0, .inr (7, [.int 0, .int 0, .int (vI σ.go), .ref hbu, .int (nI σ.buf.length), .int (nI σ.nd), .ref hgo, .ref hfi, .ref hma, .ref hln, .ref hau, .ref hsu, .ref hrow, .ref hmade2_34, .int (nI k2_36), .ref hbase2_35, .int bz2_39, .ref htx9, .int z_textSize, .int σ.stp, .ref hot, .int z_otherSize, .ref hpc, .int z_pieceSize, .int at2_40, .int en2_41, .int vv2_42])), (hmade2_34, .inl (cB, 256, .inl (f2_37))), (hbase2_35, .inl (cB, 256, .inl (fb2_38))), (hrow, .inl (cB, 16384, .inl ((fr)))), (hln, .inl (cL, 512, .inl ((fl))))] H := hP
            replace hD : va_D A [(hbu, .inl (cB, 256, .inl (fbu))), (hgo, .inl (cZ, 8, .inl (fg))), (hfi, .inl (cI, 8, .inl (ff))), (hma, .inl (cI, 8, .inl (fm))), (hau, .inl (cI, 512, .inl (fa))), (hsu, .inl (cI, 512, .inl (fs))), (htx9, .inl (cB, 256, .inl (ft))), (hot, .inl (cB, 256, .inl (fo))), (hpc, .inl (cB, 600, .inl (fp))), (h0, .inr (7, [.int 0, .int 0, .int (vI σ.go), .ref hbu, .int (nI σ.buf.length), .int (nI σ.nd), .ref hgo, .ref hfi, .ref hma, .ref hln, .ref hau, .ref hsu, .ref hrow, .ref hmade2_34, .int (nI k2_36), .ref hbase2_35, .int bz2_39, .ref htx9, .int z_textSize, .int σ.stp, .ref hot, .int z_otherSize, .ref hpc, .int z_pieceSize, .int at2_40, .int en2_41, .int vv2_42])), (hmade2_34, .inl (cB, 256, .inl (f2_37))), (hbase2_35, .inl (cB, 256, .inl (fb2_38))), (hrow, .inl (cB, 16384, .inl ((fr)))), (hln, .inl (cL, 512, .inl ((fl))))] := hD
            replace hK : va_K (dC, dI) vwCl [(cB, .byte), (cI, .int), (cL, .short), (cZ, .boolean)] s := hK
            obtain rfl : r_33 = 0 := hw
            refine lv_if_ne (tgt := 71) hx hb d_O_commit_66 (by decide) (fun h9 => absurd h9 (by decide +kernel)) (fun _ => ?_)
            refine lv_iconst (v := (-1)) hx hb d_O_commit_69 (by decide) ?_
            have hσ : (sCommit σ (nI i) a2) = (σ, 0, (-1)) := (by unfold sCommit; rw [if_neg (by rw [hdw]; decide), hdg]; refine (if_neg (by omega)).trans ?_; rw [hba])
            have hP9 := hP.sub (ws' := [(h0, .inr (7, [.int 0, .int 0, .int (vI σ.go), .ref hbu, .int (nI σ.buf.length), .int (nI σ.nd), .ref hgo, .ref hfi, .ref hma, .ref hln, .ref hau, .ref hsu, .ref hrow, .ref hmade2_34, .int (nI k2_36), .ref hbase2_35, .int bz2_39, .ref htx9, .int z_textSize, .int σ.stp, .ref hot, .int z_otherSize, .ref hpc, .int z_pieceSize, .int at2_40, .int en2_41, .int vv2_42])), (hbu, .inl (cB, 256, .inl (fbu))), (hgo, .inl (cZ, 8, .inl (fg))), (hfi, .inl (cI, 8, .inl (ff))), (hma, .inl (cI, 8, .inl (fm))), (hln, .inl (cL, 512, .inl ((fl)))), (hau, .inl (cI, 512, .inl (fa))), (hsu, .inl (cI, 512, .inl (fs))), (hrow, .inl (cB, 16384, .inl ((fr)))), (hmade2_34, .inl (cB, 256, .inl (f2_37))), (hbase2_35, .inl (cB, 256, .inl (fb2_38))), (htx9, .inl (cB, 256, .inl (ft))), (hot, .inl (cB, 256, .inl (fo))), (hpc, .inl (cB, 600, .inl (fp)))]) [9, 0, 1, 2, 3, 13, 4, 5, 12, 10, 11, 6, 7, 8] rfl
            have hD9 := hD.sub (ws' := [(h0, .inr (7, [.int 0, .int 0, .int (vI σ.go), .ref hbu, .int (nI σ.buf.length), .int (nI σ.nd), .ref hgo, .ref hfi, .ref hma, .ref hln, .ref hau, .ref hsu, .ref hrow, .ref hmade2_34, .int (nI k2_36), .ref hbase2_35, .int bz2_39, .ref htx9, .int z_textSize, .int σ.stp, .ref hot, .int z_otherSize, .ref hpc, .int z_pieceSize, .int at2_40, .int en2_41, .int vv2_42])), (hbu, .inl (cB, 256, .inl (fbu))), (hgo, .inl (cZ, 8, .inl (fg))), (hfi, .inl (cI, 8, .inl (ff))), (hma, .inl (cI, 8, .inl (fm))), (hln, .inl (cL, 512, .inl ((fl)))), (hau, .inl (cI, 512, .inl (fa))), (hsu, .inl (cI, 512, .inl (fs))), (hrow, .inl (cB, 16384, .inl ((fr)))), (hmade2_34, .inl (cB, 256, .inl (f2_37))), (hbase2_35, .inl (cB, 256, .inl (fb2_38))), (htx9, .inl (cB, 256, .inl (ft))), (hot, .inl (cB, 256, .inl (fo))), (hpc, .inl (cB, 600, .inl (fp)))]) [9, 0, 1, 2, 3, 13, 4, 5, 12, 10, 11, 6, 7, 8] (by decide) rfl
            have hK9 := hK.sub (tys' := mT cB cI cL cZ) [0, 1, 2, 3] rfl
            exact W.iret (v := (-1)) hx hb hr (fun t ht hW => ⟨⟨(-1), (), rfl, (fun _ => (congrArg (fun z => z.2.2) hσ).symm), ⟨⟨hbu, hgo, hfi, hma, hln, hau, hsu, hrow, hmade2_34, hbase2_35, htx9, hot, hpc, 0, 0, (vI σ.go), (nI σ.buf.length), (nI σ.nd), (nI k2_36), bz2_39, z_textSize, σ.stp, z_otherSize, z_pieceSize, at2_40, en2_41, vv2_42, fbu, fg, ff, fm, (fl), fa, fs, (fr), f2_37, fb2_38, ft, fo, fp⟩, ⟨(by rw [hσ]; exact (mOk.mk hm_dw hm_la hm_sz hm_bf hm_nd hm_gn hm_fm hm_ln hm_rw hm_au hm_tq hm_st)), (congrArg (fun z => z.2.1) hσ).symm⟩, by rw [ht]; exact hP9, va_K.moved hW.alike hK9, hD9⟩⟩, hS.F ht⟩) hS.2.2 d_O_commit_70
          · have hag := hpq.trans hag0
            have hba := hba.trans hag0
            refine lv_iload_n hx hb d_O_commit_57 rfl (lv_at hl 2 rfl) ?_
            refine lv_iload_n hx hb d_O_commit_58 rfl (lv_at hl 0 rfl) ?_
            refine lv_iload_n hx hb d_O_commit_59 rfl (lv_at hl 0 rfl) ?_
            refine lv_iconst (v := 1) hx hb d_O_commit_60 (by decide) ?_
            refine lv_isub hx hb d_O_commit_61 ?_
            refine lv_topi (fun x_44 ex_44 => ?_)
            refine lv_iand hx hb d_O_commit_62 ?_
            refine lv_topi (fun x_45 ex_45 => ?_)
            obtain rfl : x_45 = (nI (bs d.count)) := by rw [ex_45, ex_44]; exact (bs_nI d.count (by omega)).1
            clear ex_45
            have hPc := hP.sub (ws' := [(h0, .inr (7, [.int 0, .int 0, .int (vI σ.go), .ref hbu, .int (nI σ.buf.length), .int (nI σ.nd), .ref hgo, .ref hfi, .ref hma, .ref hln, .ref hau, .ref hsu, .ref hrow, .ref hmade, .int 0, .ref hbase, .int z_baseSize, .ref htx9, .int z_textSize, .int σ.stp, .ref hot, .int z_otherSize, .ref hpc, .int z_pieceSize, .int z_at, .int z_end, .int z_value])), (hmade, .inl (cB, 256, .inl ((f)))), (hbase, .inl (cB, 256, .inl ((fb)))), (hrow, .inl (cB, 16384, .inl ((fr)))), (hln, .inl (cL, 512, .inl ((fl))))]) [13, 8, 9, 7, 4] rfl
            have hKc := hK.sub (tys' := [(cB, .byte), (cL, .short)]) [0, 2] rfl
            have hDc := hD.sub (ws' := [(h0, .inr (7, [.int 0, .int 0, .int (vI σ.go), .ref hbu, .int (nI σ.buf.length), .int (nI σ.nd), .ref hgo, .ref hfi, .ref hma, .ref hln, .ref hau, .ref hsu, .ref hrow, .ref hmade, .int 0, .ref hbase, .int z_baseSize, .ref htx9, .int z_textSize, .int σ.stp, .ref hot, .int z_otherSize, .ref hpc, .int z_pieceSize, .int z_at, .int z_end, .int z_value])), (hmade, .inl (cB, 256, .inl ((f)))), (hbase, .inl (cB, 256, .inl ((fb)))), (hrow, .inl (cB, 16384, .inl ((fr)))), (hln, .inl (cL, 512, .inl ((fl))))]) [13, 8, 9, 7, 4] (by decide) rfl
            have hFc := va_free (wc := [(h0, .inr (7, [.int 0, .int 0, .int (vI σ.go), .ref hbu, .int (nI σ.buf.length), .int (nI σ.nd), .ref hgo, .ref hfi, .ref hma, .ref hln, .ref hau, .ref hsu, .ref hrow, .ref hmade, .int 0, .ref hbase, .int z_baseSize, .ref htx9, .int z_textSize, .int σ.stp, .ref hot, .int z_otherSize, .ref hpc, .int z_pieceSize, .int z_at, .int z_end, .int z_value])), (hmade, .inl (cB, 256, .inl ((f)))), (hbase, .inl (cB, 256, .inl ((fb)))), (hrow, .inl (cB, 16384, .inl ((fr)))), (hln, .inl (cL, 512, .inl ((fl))))]) hD hS hA [13, 8, 9, 7, 4] rfl
            refine va_calli (va_runV (As := [.int (nI i), .int (nI (bs d.count))]) (rest := []) ⟨hx, hb, hml, hown, hw0⟩ (o_again_S l dC dI H.size h0 0 0 (vI σ.go) (.ref hbu) (nI σ.buf.length) (nI σ.nd) (.ref hgo) (.ref hfi) (.ref hma) (.ref hau) (.ref hsu) 0 z_baseSize (.ref htx9) z_textSize σ.stp (.ref hot) z_otherSize (.ref hpc) z_pieceSize z_at z_end z_value hmade hbase cB (f) (fb) hrow (fr) hln cL (fl) (pqS σ.ds) i (bs d.count) Bt (by first | assumption | decide | omega) (by first | assumption | decide | omega) (by first | assumption | decide | omega) (by first | assumption | decide | omega) (by first | assumption | decide | omega)) (cwV 2 hw0 (gd_Vm wm_385 wm_386 wm_387 wm_243 wm_388) rfl rfl rfl (by decide +kernel) ⟨by decide +kernel, by decide +kernel⟩) (prV_E hPc hKc hDc hN (va_recv hKc hPc (ci := 7) (q0 := 0) rfl rfl)) rfl rfl hl.1 rfl (lv_room (Nat.le_of_ble_eq_true rfl)) d_O_commit_63 ⟨by decide +kernel, by decide +kernel⟩) hS (fun q _ h => hFc q h) hFc (fun r_46 u t H1 locs ht hvm hw hB hz1 hk1 hS => ?_)
            obtain ⟨hmade2_47, hbase2_48, k2_49, f2_50, fb2_51, bz2_52, at2_53, en2_54, vv2_55, ⟨hu_56_0, hu_56_1⟩, hP1, hK1, hD1⟩ := hB
            rw [ht] at hP1
            have hK1 := va_K.moved hvm.symm hK1
            try dsimp only at hw
            obtain ⟨hP, hD⟩ := va_join (wr := [(hbu, .inl (cB, 256, .inl (fbu))), (hgo, .inl (cZ, 8, .inl (fg))), (hfi, .inl (cI, 8, .inl (ff))), (hma, .inl (cI, 8, .inl (fm))), (hau, .inl (cI, 512, .inl (fa))), (hsu, .inl (cI, 512, .inl (fs))), (htx9, .inl (cB, 256, .inl (ft))), (hot, .inl (cB, 256, .inl (fo))), (hpc, .inl (cB, 600, .inl (fp)))]) (w1 := [(h0, .inr (7, [.int 0, .int 0, .int (vI σ.go), .ref hbu, .int (nI σ.buf.length), .int (nI σ.nd), .ref hgo, .ref hfi, .ref hma, .ref hln, .ref hau, .ref hsu, .ref hrow, .ref hmade2_47, .int (nI k2_49), .ref hbase2_48, .int bz2_52, .ref htx9, .int z_textSize, .int σ.stp, .ref hot, .int z_otherSize, .ref hpc, .int z_pieceSize, .int at2_53, .int en2_54, .int vv2_55])), (hmade2_47, .inl (cB, 256, .inl (f2_50))), (hbase2_48, .inl (cB, 256, .inl (fb2_51))), (hrow, .inl (cB, 16384, .inl ((fr)))), (hln, .inl (cL, 512, .inl ((fl))))]) hP hD [13, 8, 9, 7, 4] [0, 1, 2, 3, 5, 6, 10, 11, 12] rfl rfl (by decide) (by decide) hk1 hFc hP1 hD1
            generalize H1 = H at hP hS ⊢
            replace hP : va_P (dC, dI) vwCl [(hbu, .inl (cB, 256, .inl (fbu))), (hgo, .inl (cZ, 8, .inl (fg))), (hfi, .inl (cI, 8, .inl (ff))), (hma, .inl (cI, 8, .inl (fm))), (hau, .inl (cI, 512, .inl (fa))), (hsu, .inl (cI, 512, .inl (fs))), (htx9, .inl (cB, 256, .inl (ft))), (hot, .inl (cB, 256, .inl (fo))), (hpc, .inl (cB, 600, .inl (fp))), (h0, .inr (7, [.int 0, .int 0, .int (vI σ.go), .ref hbu, .int (nI σ.buf.length), .int (nI σ.nd), .ref hgo, .ref hfi, .ref hma, .ref hln, .ref hau, .ref hsu, .ref hrow, .ref hmade2_47, .int (nI k2_49), .ref hbase2_48, .int bz2_52, .ref htx9, .int z_textSize, .int σ.stp, .ref hot, .int z_otherSize, .ref hpc, .int z_pieceSize, .int at2_53, .int en2_54, .int vv2_55])), (hmade2_47, .inl (cB, 256, .inl (f2_50))), (hbase2_48, .inl (cB, 256, .inl (fb2_51))), (hrow, .inl (cB, 16384, .inl ((fr)))), (hln, .inl (cL, 512, .inl ((fl))))] H := hP
            replace hD : va_D A [(hbu, .inl (cB, 256, .inl (fbu))), (hgo, .inl (cZ, 8, .inl (fg))), (hfi, .inl (cI, 8, .inl (ff))), (hma, .inl (cI, 8, .inl (fm))), (hau, .inl (cI, 512, .inl (fa))), (hsu, .inl (cI, 512, .inl (fs))), (htx9, .inl (cB, 256, .inl (ft))), (hot, .inl (cB, 256, .inl (fo))), (hpc, .inl (cB, 600, .inl (fp))), (h0, .inr (7, [.int 0, .int 0, .int (vI σ.go), .ref hbu, .int (nI σ.buf.length), .int (nI σ.nd), .ref hgo, .ref hfi, .ref hma, .ref hln, .ref hau, .ref hsu, .ref hrow, .ref hmade2_47, .int (nI k2_49), .ref hbase2_48, .int bz2_52, .ref htx9, .int z_textSize, .int σ.stp, .ref hot, .int z_otherSize, .ref hpc, .int z_pieceSize, .int at2_53, .int en2_54, .int vv2_55])), (hmade2_47, .inl (cB, 256, .inl (f2_50))), (hbase2_48, .inl (cB, 256, .inl (fb2_51))), (hrow, .inl (cB, 16384, .inl ((fr)))), (hln, .inl (cL, 512, .inl ((fl))))] := hD
            replace hK : va_K (dC, dI) vwCl [(cB, .byte), (cI, .int), (cL, .short), (cZ, .boolean)] s := hK
            obtain rfl : r_46 = 1 := hw
            refine lv_if_ne (tgt := 71) hx hb d_O_commit_66 (by decide) (fun _ => ?_) (fun h9 => absurd h9 (by decide +kernel))
            have hMt := hu_56_0
            have hMk := hu_56_1
            have hBf : tx σ.buf σ.buf.length fbu := hm_bf
            refine lv_aload_n hx hb d_O_commit_71 rfl (lv_at hl 1 rfl) ?_
            have hPc := hP.sub (ws' := [(h0, .inr (7, [.int 0, .int 0, .int (vI σ.go), .ref hbu, .int (nI σ.buf.length), .int (nI σ.nd), .ref hgo, .ref hfi, .ref hma, .ref hln, .ref hau, .ref hsu, .ref hrow, .ref hmade2_47, .int (nI k2_49), .ref hbase2_48, .int bz2_52, .ref htx9, .int z_textSize, .int σ.stp, .ref hot, .int z_otherSize, .ref hpc, .int z_pieceSize, .int at2_53, .int en2_54, .int vv2_55])), (hpc, .inl (cB, 600, .inl ((fp)))), (hbu, .inl (cB, 256, .inl ((fbu)))), (hmade2_47, .inl (cB, 256, .inl ((f2_50))))]) [9, 8, 0, 10] rfl
            have hKc := hK.sub (tys' := [(cB, .byte), (cB, .byte), (cB, .byte)]) [0, 0, 0] rfl
            have hDc := hD.sub (ws' := [(h0, .inr (7, [.int 0, .int 0, .int (vI σ.go), .ref hbu, .int (nI σ.buf.length), .int (nI σ.nd), .ref hgo, .ref hfi, .ref hma, .ref hln, .ref hau, .ref hsu, .ref hrow, .ref hmade2_47, .int (nI k2_49), .ref hbase2_48, .int bz2_52, .ref htx9, .int z_textSize, .int σ.stp, .ref hot, .int z_otherSize, .ref hpc, .int z_pieceSize, .int at2_53, .int en2_54, .int vv2_55])), (hpc, .inl (cB, 600, .inl ((fp)))), (hbu, .inl (cB, 256, .inl ((fbu)))), (hmade2_47, .inl (cB, 256, .inl ((f2_50))))]) [9, 8, 0, 10] (by decide) rfl
            have hFc := va_free (wc := [(h0, .inr (7, [.int 0, .int 0, .int (vI σ.go), .ref hbu, .int (nI σ.buf.length), .int (nI σ.nd), .ref hgo, .ref hfi, .ref hma, .ref hln, .ref hau, .ref hsu, .ref hrow, .ref hmade2_47, .int (nI k2_49), .ref hbase2_48, .int bz2_52, .ref htx9, .int z_textSize, .int σ.stp, .ref hot, .int z_otherSize, .ref hpc, .int z_pieceSize, .int at2_53, .int en2_54, .int vv2_55])), (hpc, .inl (cB, 600, .inl ((fp)))), (hbu, .inl (cB, 256, .inl ((fbu)))), (hmade2_47, .inl (cB, 256, .inl ((f2_50))))]) hD hS hA [9, 8, 0, 10] rfl
            refine va_callv (va_runV (As := []) (rest := []) ⟨hx, hb, hml, hown, hw0⟩ (o_pieces l dC dI H.size h0 0 0 (vI σ.go) (nI σ.nd) (.ref hgo) (.ref hfi) (.ref hma) (.ref hln) (.ref hau) (.ref hsu) (.ref hrow) (.ref hbase2_48) bz2_52 (.ref htx9) z_textSize σ.stp (.ref hot) z_otherSize z_pieceSize at2_53 en2_54 vv2_55 hpc cB (fp) hbu cB σ.buf.length (fbu) σ.buf hmade2_47 cB k2_49 (f2_50) Bt (by first | assumption | decide | omega) (by first | assumption | decide | omega) (by first | assumption | decide | omega) (by first | assumption | decide | omega)) (cwV 0 hw0 (gd_Vm wm_389 wm_390 wm_391 wm_243 wm_392) rfl rfl rfl (by decide +kernel) ⟨by decide +kernel, by decide +kernel⟩) (prV_E hPc hKc hDc hN (va_recv hKc hPc (ci := 7) (q0 := 0) rfl rfl)) rfl rfl hl.1 rfl (lv_room (Nat.le_of_ble_eq_true rfl)) d_O_commit_72 ⟨by decide +kernel, by decide +kernel⟩) hS (fun q _ h => hFc q h) hFc (fun u t H1 locs ht hvm hw hB hz1 hk1 hS => ?_)
            obtain ⟨q2_57, g2_58, ⟨hu_59_0, hu_59_1⟩, hP1, hK1, hD1⟩ := hB
            rw [ht] at hP1
            have hK1 := va_K.moved hvm.symm hK1
            try dsimp only at hw
            obtain ⟨hP, hD⟩ := va_join (wr := [(hgo, .inl (cZ, 8, .inl (fg))), (hfi, .inl (cI, 8, .inl (ff))), (hma, .inl (cI, 8, .inl (fm))), (hau, .inl (cI, 512, .inl (fa))), (hsu, .inl (cI, 512, .inl (fs))), (htx9, .inl (cB, 256, .inl (ft))), (hot, .inl (cB, 256, .inl (fo))), (hbase2_48, .inl (cB, 256, .inl (fb2_51))), (hrow, .inl (cB, 16384, .inl ((fr)))), (hln, .inl (cL, 512, .inl ((fl))))]) (w1 := [(h0, .inr (7, [.int 0, .int 0, .int (vI σ.go), .ref hbu, .int (nI σ.buf.length), .int (nI σ.nd), .ref hgo, .ref hfi, .ref hma, .ref hln, .ref hau, .ref hsu, .ref hrow, .ref hmade2_47, .int (nI k2_49), .ref hbase2_48, .int bz2_52, .ref htx9, .int z_textSize, .int σ.stp, .ref hot, .int z_otherSize, .ref hpc, .int (nI q2_57), .int at2_53, .int en2_54, .int vv2_55])), (hpc, .inl (cB, 600, .inl (g2_58))), (hbu, .inl (cB, 256, .inl ((fbu)))), (hmade2_47, .inl (cB, 256, .inl ((f2_50))))]) hP hD [9, 8, 0, 10] [1, 2, 3, 4, 5, 6, 7, 11, 12, 13] rfl rfl (by decide) (by decide) hk1 hFc hP1 hD1
            generalize H1 = H at hP hS ⊢
            replace hP : va_P (dC, dI) vwCl [(hgo, .inl (cZ, 8, .inl (fg))), (hfi, .inl (cI, 8, .inl (ff))), (hma, .inl (cI, 8, .inl (fm))), (hau, .inl (cI, 512, .inl (fa))), (hsu, .inl (cI, 512, .inl (fs))), (htx9, .inl (cB, 256, .inl (ft))), (hot, .inl (cB, 256, .inl (fo))), (hbase2_48, .inl (cB, 256, .inl (fb2_51))), (hrow, .inl (cB, 16384, .inl ((fr)))), (hln, .inl (cL, 512, .inl ((fl)))), (h0, .inr (7, [.int 0, .int 0, .int (vI σ.go), .ref hbu, .int (nI σ.buf.length), .int (nI σ.nd), .ref hgo, .ref hfi, .ref hma, .ref hln, .ref hau, .ref hsu, .ref hrow, .ref hmade2_47, .int (nI k2_49), .ref hbase2_48, .int bz2_52, .ref htx9, .int z_textSize, .int σ.stp, .ref hot, .int z_otherSize, .ref hpc, .int (nI q2_57), .int at2_53, .int en2_54, .int vv2_55])), (hpc, .inl (cB, 600, .inl (g2_58))), (hbu, .inl (cB, 256, .inl ((fbu)))), (hmade2_47, .inl (cB, 256, .inl ((f2_50))))] H := hP
            replace hD : va_D A [(hgo, .inl (cZ, 8, .inl (fg))), (hfi, .inl (cI, 8, .inl (ff))), (hma, .inl (cI, 8, .inl (fm))), (hau, .inl (cI, 512, .inl (fa))), (hsu, .inl (cI, 512, .inl (fs))), (htx9, .inl (cB, 256, .inl (ft))), (hot, .inl (cB, 256, .inl (fo))), (hbase2_48, .inl (cB, 256, .inl (fb2_51))), (hrow, .inl (cB, 16384, .inl ((fr)))), (hln, .inl (cL, 512, .inl ((fl)))), (h0, .inr (7, [.int 0, .int 0, .int (vI σ.go), .ref hbu, .int (nI σ.buf.length), .int (nI σ.nd), .ref hgo, .ref hfi, .ref hma, .ref hln, .ref hau, .ref hsu, .ref hrow, .ref hmade2_47, .int (nI k2_49), .ref hbase2_48, .int bz2_52, .ref htx9, .int z_textSize, .int σ.stp, .ref hot, .int z_otherSize, .ref hpc, .int (nI q2_57), .int at2_53, .int en2_54, .int vv2_55])), (hpc, .inl (cB, 600, .inl (g2_58))), (hbu, .inl (cB, 256, .inl ((fbu)))), (hmade2_47, .inl (cB, 256, .inl ((f2_50))))] := hD
            replace hK : va_K (dC, dI) vwCl [(cB, .byte), (cI, .int), (cL, .short), (cZ, .boolean)] s := hK
            have hn514 := hu_59_0
            have hPt := hu_59_1
            have hbk9 := blk_le q2_57
            · have hlen : (pce σ.buf Bt).length = q2_57 := hPt.1
              refine lv_aload_n hx hb d_O_commit_75 rfl (lv_at hl 1 rfl) ?_
              refine va_get (D := (dC, dI)) (ci := 7) (v := .int (nI q2_57)) (C := R_O) (T := F_O) (N := 27) hx hb hw0 in_O hown hK hP 10 rfl rfl 23 (by decide) (hw0 (.fieldLink R_O 125 "TextKeeperModel" "pieceSize" "I") wm_239) (fun _ h9 => h9) rfl d_O_commit_76 ?_
              have hPc := hP.sub (ws' := []) [] rfl
              have hKc := hK.sub (tys' := []) [] rfl
              refine ps_i (va_runS (As := [.int (nI q2_57)]) (rest := []) ⟨hx, hb, hml, hown, hw0⟩ (o_blocks l dC dI q2_57 (by first | assumption | decide | omega)) (va_cwS 1 hw0 (gd_S 340 341 243 342 rfl rfl rfl rfl) rfl rfl rfl (by decide +kernel) ⟨by decide +kernel, by decide +kernel⟩) (prS_R hPc hKc hN) rfl rfl hl.1 rfl (lv_room (Nat.le_of_ble_eq_true rfl)) d_O_commit_79 ⟨by decide +kernel, by decide +kernel⟩) (fun r_60 hr_60 => ?_)
              obtain rfl : r_60 = (nI (blk q2_57)) := hr_60
              refine lv_aload_n hx hb d_O_commit_82 rfl (lv_at hl 1 rfl) ?_
              have hPc := hP.sub (ws' := [(h0, .inr (7, [.int 0, .int 0, .int (vI σ.go), .ref hbu, .int (nI σ.buf.length), .int (nI σ.nd), .ref hgo, .ref hfi, .ref hma, .ref hln, .ref hau, .ref hsu, .ref hrow, .ref hmade2_47, .int (nI k2_49), .ref hbase2_48, .int bz2_52, .ref htx9, .int z_textSize, .int σ.stp, .ref hot, .int z_otherSize, .ref hpc, .int (nI q2_57), .int at2_53, .int en2_54, .int vv2_55])), (hln, .inl (cL, 512, .inl (((fl)))))]) [10, 9] rfl
              have hKc := hK.sub (tys' := [(cL, .short)]) [2] rfl
              refine ps_i (va_runV (As := []) (rest := [.int (nI (blk q2_57))]) ⟨hx, hb, hml, hown, hw0⟩ (o_free l dC dI h0 0 0 (vI σ.go) (.ref hbu) (nI σ.buf.length) (nI σ.nd) (.ref hgo) (.ref hfi) (.ref hma) (.ref hau) (.ref hsu) (.ref hrow) (.ref hmade2_47) (nI k2_49) (.ref hbase2_48) bz2_52 (.ref htx9) z_textSize σ.stp (.ref hot) z_otherSize (.ref hpc) (nI q2_57) at2_53 en2_54 vv2_55 hln cL ((fl)) (lnq (pqS σ.ds)) (by first | assumption | decide | omega) (by first | assumption | decide | omega)) (cwV 0 hw0 (gd_Vm wm_365 wm_366 wm_367 wm_243 wm_368) rfl rfl rfl (by decide +kernel) ⟨by decide +kernel, by decide +kernel⟩) (prV_R hPc hKc hN (va_recv hKc hPc (ci := 7) (q0 := 0) rfl rfl)) rfl rfl hl.1 rfl (lv_room (Nat.le_of_ble_eq_true rfl)) d_O_commit_83 ⟨by decide +kernel, by decide +kernel⟩) (fun r_61 hr_61 => ?_)
              obtain rfl : r_61 = (512 - nI (frb (lnq (pqS σ.ds)) 512)) := hr_61
              refine W.eq (g2 := F0 m 86 ls [.int (nI (512 - usd σ.ds 8)), .int (nI (blk q2_57))]) (by rw [fr_us hs]) ?_
              · have hus := hs.us
                refine lv_icmp_le (tgt := 91) hx hb d_O_commit_86 (by decide) (fun c_62 => ?_) (fun c_62 => ?_)
                · have hroom : blk q2_57 ≤ 512 - usd σ.ds 8 := (nI_leI (by omega) (by omega)).mp c_62
                  have hb514 : blk q2_57 ≤ 512 := (by omega)
                  rcases hsp : spend σ (blk q2_57 + 1) with _ | τ
                  · obtain ⟨w9, hw8, hw9⟩ := spend_none hsp
                    have hn30 : (blk q2_57 + 1) < 2 ^ 30 := (by omega)
                    refine lv_aload_n hx hb d_O_commit_91 rfl (lv_at hl 1 rfl) ?_
                    refine lv_aload_n hx hb d_O_commit_92 rfl (lv_at hl 1 rfl) ?_
                    refine va_get (D := (dC, dI)) (ci := 7) (v := .int (nI q2_57)) (C := R_O) (T := F_O) (N := 27) hx hb hw0 in_O hown hK hP 10 rfl rfl 23 (by decide) (hw0 (.fieldLink R_O 125 "TextKeeperModel" "pieceSize" "I") wm_239) (fun _ h9 => h9) rfl d_O_commit_93 ?_
                    have hPc := hP.sub (ws' := []) [] rfl
                    have hKc := hK.sub (tys' := []) [] rfl
                    refine ps_i (va_runS (As := [.int (nI q2_57)]) (rest := [.ref h0]) ⟨hx, hb, hml, hown, hw0⟩ (o_blocks l dC dI q2_57 (by first | assumption | decide | omega)) (va_cwS 1 hw0 (gd_S 340 341 243 342 rfl rfl rfl rfl) rfl rfl rfl (by decide +kernel) ⟨by decide +kernel, by decide +kernel⟩) (prS_R hPc hKc hN) rfl rfl hl.1 rfl (lv_room (Nat.le_of_ble_eq_true rfl)) d_O_commit_96 ⟨by decide +kernel, by decide +kernel⟩) (fun r_63 hr_63 => ?_)
                    obtain rfl : r_63 = (nI (blk q2_57)) := hr_63
                    refine lv_iconst (v := 1) hx hb d_O_commit_99 (by decide) ?_
                    refine lv_iadd hx hb d_O_commit_100 ?_
                    refine lv_topi (fun x_64 ex_64 => ?_)
                    obtain rfl : x_64 = (nI (blk q2_57 + 1)) := by rw [ex_64]; exact nI_1 _
                    clear ex_64
                    have hPc := hP.sub (ws' := [(h0, .inr (7, [.int 0, .int 0, .int (vI σ.go), .ref hbu, .int (nI σ.buf.length), .int (nI σ.nd), .ref hgo, .ref hfi, .ref hma, .ref hln, .ref hau, .ref hsu, .ref hrow, .ref hmade2_47, .int (nI k2_49), .ref hbase2_48, .int bz2_52, .ref htx9, .int z_textSize, .int σ.stp, .ref hot, .int z_otherSize, .ref hpc, .int (nI q2_57), .int at2_53, .int en2_54, .int vv2_55]))]) [10] rfl
                    have hKc := hK.sub (tys' := []) [] rfl
                    have hDc := hD.sub (ws' := [(h0, .inr (7, [.int 0, .int 0, .int (vI σ.go), .ref hbu, .int (nI σ.buf.length), .int (nI σ.nd), .ref hgo, .ref hfi, .ref hma, .ref hln, .ref hau, .ref hsu, .ref hrow, .ref hmade2_47, .int (nI k2_49), .ref hbase2_48, .int bz2_52, .ref htx9, .int z_textSize, .int σ.stp, .ref hot, .int z_otherSize, .ref hpc, .int (nI q2_57), .int at2_53, .int en2_54, .int vv2_55]))]) [10] (by decide) rfl
                    have hFc := va_free (wc := [(h0, .inr (7, [.int 0, .int 0, .int (vI σ.go), .ref hbu, .int (nI σ.buf.length), .int (nI σ.nd), .ref hgo, .ref hfi, .ref hma, .ref hln, .ref hau, .ref hsu, .ref hrow, .ref hmade2_47, .int (nI k2_49), .ref hbase2_48, .int bz2_52, .ref htx9, .int z_textSize, .int σ.stp, .ref hot, .int z_otherSize, .ref hpc, .int (nI q2_57), .int at2_53, .int en2_54, .int vv2_55]))]) hD hS hA [10] rfl
                    refine va_calli (va_runV (As := [.int (nI (blk q2_57 + 1))]) (rest := []) ⟨hx, hb, hml, hown, hw0⟩ (o_writes_F l dC dI H.size h0 0 0 (.ref hbu) (nI σ.buf.length) (nI σ.nd) (.ref hgo) (.ref hfi) (.ref hma) (.ref hln) (.ref hau) (.ref hsu) (.ref hrow) (.ref hmade2_47) (nI k2_49) (.ref hbase2_48) bz2_52 (.ref htx9) z_textSize σ.stp (.ref hot) z_otherSize (.ref hpc) (nI q2_57) at2_53 en2_54 vv2_55 σ.go _ (blk q2_57 + 1) (by first | assumption | decide | omega) (by first | assumption | decide | omega) (by first | assumption | decide | omega)) (cwV 1 hw0 (gd_Vm wm_369 wm_370 wm_371 wm_243 wm_372) rfl rfl rfl (by decide +kernel) ⟨by decide +kernel, by decide +kernel⟩) (prV_E hPc hKc hDc hN (va_recv hKc hPc (ci := 7) (q0 := 0) rfl rfl)) rfl rfl hl.1 rfl (lv_room (Nat.le_of_ble_eq_true rfl)) d_O_commit_101 ⟨by decide +kernel, by decide +kernel⟩) hS (fun q _ h => hFc q h) hFc (fun r_65 u t H1 locs ht hvm hw hB hz1 hk1 hS => ?_)
                    obtain ⟨hP1, hK1, hD1⟩ := hB
                    rw [ht] at hP1
                    have hK1 := va_K.moved hvm.symm hK1
                    try dsimp only at hw
                    obtain ⟨hP, hD⟩ := va_join (wr := [(hgo, .inl (cZ, 8, .inl (fg))), (hfi, .inl (cI, 8, .inl (ff))), (hma, .inl (cI, 8, .inl (fm))), (hau, .inl (cI, 512, .inl (fa))), (hsu, .inl (cI, 512, .inl (fs))), (htx9, .inl (cB, 256, .inl (ft))), (hot, .inl (cB, 256, .inl (fo))), (hbase2_48, .inl (cB, 256, .inl (fb2_51))), (hrow, .inl (cB, 16384, .inl ((fr)))), (hln, .inl (cL, 512, .inl ((fl)))), (hpc, .inl (cB, 600, .inl (g2_58))), (hbu, .inl (cB, 256, .inl ((fbu)))), (hmade2_47, .inl (cB, 256, .inl ((f2_50))))]) (w1 := [(h0, .inr (7, [.int 1, .int 1, .int (-1), .ref hbu, .int 0, .int (nI σ.nd), .ref hgo, .ref hfi, .ref hma, .ref hln, .ref hau, .ref hsu, .ref hrow, .ref hmade2_47, .int (nI k2_49), .ref hbase2_48, .int bz2_52, .ref htx9, .int z_textSize, .int σ.stp, .ref hot, .int z_otherSize, .ref hpc, .int (nI q2_57), .int at2_53, .int en2_54, .int vv2_55]))]) hP hD [10] [0, 1, 2, 3, 4, 5, 6, 7, 8, 9, 11, 12, 13] rfl rfl (by decide) (by decide) hk1 hFc hP1 hD1
                    generalize H1 = H at hP hS ⊢
                    replace hP : va_P (dC, dI) vwCl [(hgo, .inl (cZ, 8, .inl (fg))), (hfi, .inl (cI, 8, .inl (ff))), (hma, .inl (cI, 8, .inl (fm))), (hau, .inl (cI, 512, .inl (fa))), (hsu, .inl (cI, 512, .inl (fs))), (htx9, .inl (cB, 256, .inl (ft))), (hot, .inl (cB, 256, .inl (fo))), (hbase2_48, .inl (cB, 256, .inl (fb2_51))), (hrow, .inl (cB, 16384, .inl ((fr)))), (hln, .inl (cL, 512, .inl ((fl)))), (hpc, .inl (cB, 600, .inl (g2_58))), (hbu, .inl (cB, 256, .inl ((fbu)))), (hmade2_47, .inl (cB, 256, .inl ((f2_50)))), (h0, .inr (7, [.int 1, .int 1, .int (-1), .ref hbu, .int 0, .int (nI σ.nd), .ref hgo, .ref hfi, .ref hma, .ref hln, .ref hau, .ref hsu, .ref hrow, .ref hmade2_47, .int (nI k2_49), .ref hbase2_48, .int bz2_52, .ref htx9, .int z_textSize, .int σ.stp, .ref hot, .int z_otherSize, .ref hpc, .int (nI q2_57), .int at2_53, .int en2_54, .int vv2_55]))] H := hP
                    replace hD : va_D A [(hgo, .inl (cZ, 8, .inl (fg))), (hfi, .inl (cI, 8, .inl (ff))), (hma, .inl (cI, 8, .inl (fm))), (hau, .inl (cI, 512, .inl (fa))), (hsu, .inl (cI, 512, .inl (fs))), (htx9, .inl (cB, 256, .inl (ft))), (hot, .inl (cB, 256, .inl (fo))), (hbase2_48, .inl (cB, 256, .inl (fb2_51))), (hrow, .inl (cB, 16384, .inl ((fr)))), (hln, .inl (cL, 512, .inl ((fl)))), (hpc, .inl (cB, 600, .inl (g2_58))), (hbu, .inl (cB, 256, .inl ((fbu)))), (hmade2_47, .inl (cB, 256, .inl ((f2_50)))), (h0, .inr (7, [.int 1, .int 1, .int (-1), .ref hbu, .int 0, .int (nI σ.nd), .ref hgo, .ref hfi, .ref hma, .ref hln, .ref hau, .ref hsu, .ref hrow, .ref hmade2_47, .int (nI k2_49), .ref hbase2_48, .int bz2_52, .ref htx9, .int z_textSize, .int σ.stp, .ref hot, .int z_otherSize, .ref hpc, .int (nI q2_57), .int at2_53, .int en2_54, .int vv2_55]))] := hD
                    replace hK : va_K (dC, dI) vwCl [(cB, .byte), (cI, .int), (cL, .short), (cZ, .boolean)] s := hK
                    obtain rfl : r_65 = 0 := hw
                    refine lv_if_ne (tgt := 109) hx hb d_O_commit_104 (by decide) (fun h9 => absurd h9 (by decide +kernel)) (fun _ => ?_)
                    refine lv_iconst (v := 0) hx hb d_O_commit_107 (by decide) ?_
                    have hσ : (sCommit σ (nI i) a2) = (off σ, 1, 0) := (by unfold sCommit; rw [if_neg (by rw [hdw]; decide), hdg]; refine (if_neg (by omega)).trans ?_; rw [hba]; refine (if_neg (by rw [hlen]; omega)).trans ?_; rw [hlen, hsp])
                    have hP9 := hP.sub (ws' := [(h0, .inr (7, [.int 1, .int 1, .int (-1), .ref hbu, .int 0, .int (nI σ.nd), .ref hgo, .ref hfi, .ref hma, .ref hln, .ref hau, .ref hsu, .ref hrow, .ref hmade2_47, .int (nI k2_49), .ref hbase2_48, .int bz2_52, .ref htx9, .int z_textSize, .int σ.stp, .ref hot, .int z_otherSize, .ref hpc, .int (nI q2_57), .int at2_53, .int en2_54, .int vv2_55])), (hbu, .inl (cB, 256, .inl ((fbu)))), (hgo, .inl (cZ, 8, .inl (fg))), (hfi, .inl (cI, 8, .inl (ff))), (hma, .inl (cI, 8, .inl (fm))), (hln, .inl (cL, 512, .inl ((fl)))), (hau, .inl (cI, 512, .inl (fa))), (hsu, .inl (cI, 512, .inl (fs))), (hrow, .inl (cB, 16384, .inl ((fr)))), (hmade2_47, .inl (cB, 256, .inl ((f2_50)))), (hbase2_48, .inl (cB, 256, .inl (fb2_51))), (htx9, .inl (cB, 256, .inl (ft))), (hot, .inl (cB, 256, .inl (fo))), (hpc, .inl (cB, 600, .inl (g2_58)))]) [13, 11, 0, 1, 2, 9, 3, 4, 8, 12, 7, 5, 6, 10] rfl
                    have hD9 := hD.sub (ws' := [(h0, .inr (7, [.int 1, .int 1, .int (-1), .ref hbu, .int 0, .int (nI σ.nd), .ref hgo, .ref hfi, .ref hma, .ref hln, .ref hau, .ref hsu, .ref hrow, .ref hmade2_47, .int (nI k2_49), .ref hbase2_48, .int bz2_52, .ref htx9, .int z_textSize, .int σ.stp, .ref hot, .int z_otherSize, .ref hpc, .int (nI q2_57), .int at2_53, .int en2_54, .int vv2_55])), (hbu, .inl (cB, 256, .inl ((fbu)))), (hgo, .inl (cZ, 8, .inl (fg))), (hfi, .inl (cI, 8, .inl (ff))), (hma, .inl (cI, 8, .inl (fm))), (hln, .inl (cL, 512, .inl ((fl)))), (hau, .inl (cI, 512, .inl (fa))), (hsu, .inl (cI, 512, .inl (fs))), (hrow, .inl (cB, 16384, .inl ((fr)))), (hmade2_47, .inl (cB, 256, .inl ((f2_50)))), (hbase2_48, .inl (cB, 256, .inl (fb2_51))), (htx9, .inl (cB, 256, .inl (ft))), (hot, .inl (cB, 256, .inl (fo))), (hpc, .inl (cB, 600, .inl (g2_58)))]) [13, 11, 0, 1, 2, 9, 3, 4, 8, 12, 7, 5, 6, 10] (by decide) rfl
                    have hK9 := hK.sub (tys' := mT cB cI cL cZ) [0, 1, 2, 3] rfl
                    exact W.iret (v := 0) hx hb hr (fun t ht hW => ⟨⟨0, (), rfl, (fun _ => (congrArg (fun z => z.2.2) hσ).symm), ⟨⟨hbu, hgo, hfi, hma, hln, hau, hsu, hrow, hmade2_47, hbase2_48, htx9, hot, hpc, 1, 1, (-1), 0, (nI σ.nd), (nI k2_49), bz2_52, z_textSize, σ.stp, z_otherSize, (nI q2_57), at2_53, en2_54, vv2_55, (fbu), fg, ff, fm, (fl), fa, fs, (fr), (f2_50), fb2_51, ft, fo, g2_58⟩, ⟨(by rw [hσ]; exact (mOk.mk rfl rfl rfl (tx_nil _) hm_nd hm_gn hm_fm hm_ln hm_rw hm_au hm_tq hm_st)), (congrArg (fun z => z.2.1) hσ).symm⟩, by rw [ht]; exact hP9, va_K.moved hW.alike hK9, hD9⟩⟩, hS.F ht⟩) hS.2.2 d_O_commit_108
                  · obtain ⟨hτ, hle9⟩ := spend_some hsp
                    have hn30 : (blk q2_57 + 1) < 2 ^ 30 := (by omega)
                    have hg9 := hs.go
                    refine lv_aload_n hx hb d_O_commit_91 rfl (lv_at hl 1 rfl) ?_
                    refine lv_aload_n hx hb d_O_commit_92 rfl (lv_at hl 1 rfl) ?_
                    refine va_get (D := (dC, dI)) (ci := 7) (v := .int (nI q2_57)) (C := R_O) (T := F_O) (N := 27) hx hb hw0 in_O hown hK hP 10 rfl rfl 23 (by decide) (hw0 (.fieldLink R_O 125 "TextKeeperModel" "pieceSize" "I") wm_239) (fun _ h9 => h9) rfl d_O_commit_93 ?_
                    have hPc := hP.sub (ws' := []) [] rfl
                    have hKc := hK.sub (tys' := []) [] rfl
                    refine ps_i (va_runS (As := [.int (nI q2_57)]) (rest := [.ref h0]) ⟨hx, hb, hml, hown, hw0⟩ (o_blocks l dC dI q2_57 (by first | assumption | decide | omega)) (va_cwS 1 hw0 (gd_S 340 341 243 342 rfl rfl rfl rfl) rfl rfl rfl (by decide +kernel) ⟨by decide +kernel, by decide +kernel⟩) (prS_R hPc hKc hN) rfl rfl hl.1 rfl (lv_room (Nat.le_of_ble_eq_true rfl)) d_O_commit_96 ⟨by decide +kernel, by decide +kernel⟩) (fun r_67 hr_67 => ?_)
                    obtain rfl : r_67 = (nI (blk q2_57)) := hr_67
                    refine lv_iconst (v := 1) hx hb d_O_commit_99 (by decide) ?_
                    refine lv_iadd hx hb d_O_commit_100 ?_
                    refine lv_topi (fun x_68 ex_68 => ?_)
                    obtain rfl : x_68 = (nI (blk q2_57 + 1)) := by rw [ex_68]; exact nI_1 _
                    clear ex_68
                    have hPc := hP.sub (ws' := [(h0, .inr (7, [.int 0, .int 0, .int (vI σ.go), .ref hbu, .int (nI σ.buf.length), .int (nI σ.nd), .ref hgo, .ref hfi, .ref hma, .ref hln, .ref hau, .ref hsu, .ref hrow, .ref hmade2_47, .int (nI k2_49), .ref hbase2_48, .int bz2_52, .ref htx9, .int z_textSize, .int σ.stp, .ref hot, .int z_otherSize, .ref hpc, .int (nI q2_57), .int at2_53, .int en2_54, .int vv2_55]))]) [10] rfl
                    have hKc := hK.sub (tys' := []) [] rfl
                    have hDc := hD.sub (ws' := [(h0, .inr (7, [.int 0, .int 0, .int (vI σ.go), .ref hbu, .int (nI σ.buf.length), .int (nI σ.nd), .ref hgo, .ref hfi, .ref hma, .ref hln, .ref hau, .ref hsu, .ref hrow, .ref hmade2_47, .int (nI k2_49), .ref hbase2_48, .int bz2_52, .ref htx9, .int z_textSize, .int σ.stp, .ref hot, .int z_otherSize, .ref hpc, .int (nI q2_57), .int at2_53, .int en2_54, .int vv2_55]))]) [10] (by decide) rfl
                    have hFc := va_free (wc := [(h0, .inr (7, [.int 0, .int 0, .int (vI σ.go), .ref hbu, .int (nI σ.buf.length), .int (nI σ.nd), .ref hgo, .ref hfi, .ref hma, .ref hln, .ref hau, .ref hsu, .ref hrow, .ref hmade2_47, .int (nI k2_49), .ref hbase2_48, .int bz2_52, .ref htx9, .int z_textSize, .int σ.stp, .ref hot, .int z_otherSize, .ref hpc, .int (nI q2_57), .int at2_53, .int en2_54, .int vv2_55]))]) hD hS hA [10] rfl
                    refine va_calli (va_runV (As := [.int (nI (blk q2_57 + 1))]) (rest := []) ⟨hx, hb, hml, hown, hw0⟩ (o_writes_T l dC dI H.size h0 0 0 (.ref hbu) (nI σ.buf.length) (nI σ.nd) (.ref hgo) (.ref hfi) (.ref hma) (.ref hln) (.ref hau) (.ref hsu) (.ref hrow) (.ref hmade2_47) (nI k2_49) (.ref hbase2_48) bz2_52 (.ref htx9) z_textSize σ.stp (.ref hot) z_otherSize (.ref hpc) (nI q2_57) at2_53 en2_54 vv2_55 σ.go (blk q2_57 + 1) (by first | assumption | decide | omega) (by first | assumption | decide | omega) (by first | assumption | decide | omega)) (cwV 1 hw0 (gd_Vm wm_369 wm_370 wm_371 wm_243 wm_372) rfl rfl rfl (by decide +kernel) ⟨by decide +kernel, by decide +kernel⟩) (prV_E hPc hKc hDc hN (va_recv hKc hPc (ci := 7) (q0 := 0) rfl rfl)) rfl rfl hl.1 rfl (lv_room (Nat.le_of_ble_eq_true rfl)) d_O_commit_101 ⟨by decide +kernel, by decide +kernel⟩) hS (fun q _ h => hFc q h) hFc (fun r_69 u t H1 locs ht hvm hw hB hz1 hk1 hS => ?_)
                    obtain ⟨la_70, hu_71, hP1, hK1, hD1⟩ := hB
                    rw [ht] at hP1
                    have hK1 := va_K.moved hvm.symm hK1
                    try dsimp only at hw
                    obtain ⟨hP, hD⟩ := va_join (wr := [(hgo, .inl (cZ, 8, .inl (fg))), (hfi, .inl (cI, 8, .inl (ff))), (hma, .inl (cI, 8, .inl (fm))), (hau, .inl (cI, 512, .inl (fa))), (hsu, .inl (cI, 512, .inl (fs))), (htx9, .inl (cB, 256, .inl (ft))), (hot, .inl (cB, 256, .inl (fo))), (hbase2_48, .inl (cB, 256, .inl (fb2_51))), (hrow, .inl (cB, 16384, .inl ((fr)))), (hln, .inl (cL, 512, .inl ((fl)))), (hpc, .inl (cB, 600, .inl (g2_58))), (hbu, .inl (cB, 256, .inl ((fbu)))), (hmade2_47, .inl (cB, 256, .inl ((f2_50))))]) (w1 := [(h0, .inr (7, [.int 0, .int 0, .int la_70, .ref hbu, .int (nI σ.buf.length), .int (nI σ.nd), .ref hgo, .ref hfi, .ref hma, .ref hln, .ref hau, .ref hsu, .ref hrow, .ref hmade2_47, .int (nI k2_49), .ref hbase2_48, .int bz2_52, .ref htx9, .int z_textSize, .int σ.stp, .ref hot, .int z_otherSize, .ref hpc, .int (nI q2_57), .int at2_53, .int en2_54, .int vv2_55]))]) hP hD [10] [0, 1, 2, 3, 4, 5, 6, 7, 8, 9, 11, 12, 13] rfl rfl (by decide) (by decide) hk1 hFc hP1 hD1
                    generalize H1 = H at hP hS ⊢
                    replace hP : va_P (dC, dI) vwCl [(hgo, .inl (cZ, 8, .inl (fg))), (hfi, .inl (cI, 8, .inl (ff))), (hma, .inl (cI, 8, .inl (fm))), (hau, .inl (cI, 512, .inl (fa))), (hsu, .inl (cI, 512, .inl (fs))), (htx9, .inl (cB, 256, .inl (ft))), (hot, .inl (cB, 256, .inl (fo))), (hbase2_48, .inl (cB, 256, .inl (fb2_51))), (hrow, .inl (cB, 16384, .inl ((fr)))), (hln, .inl (cL, 512, .inl ((fl)))), (hpc, .inl (cB, 600, .inl (g2_58))), (hbu, .inl (cB, 256, .inl ((fbu)))), (hmade2_47, .inl (cB, 256, .inl ((f2_50)))), (h0, .inr (7, [.int 0, .int 0, .int la_70, .ref hbu, .int (nI σ.buf.length), .int (nI σ.nd), .ref hgo, .ref hfi, .ref hma, .ref hln, .ref hau, .ref hsu, .ref hrow, .ref hmade2_47, .int (nI k2_49), .ref hbase2_48, .int bz2_52, .ref htx9, .int z_textSize, .int σ.stp, .ref hot, .int z_otherSize, .ref hpc, .int (nI q2_57), .int at2_53, .int en2_54, .int vv2_55]))] H := hP
                    replace hD : va_D A [(hgo, .inl (cZ, 8, .inl (fg))), (hfi, .inl (cI, 8, .inl (ff))), (hma, .inl (cI, 8, .inl (fm))), (hau, .inl (cI, 512, .inl (fa))), (hsu, .inl (cI, 512, .inl (fs))), (htx9, .inl (cB, 256, .inl (ft))), (hot, .inl (cB, 256, .inl (fo))), (hbase2_48, .inl (cB, 256, .inl (fb2_51))), (hrow, .inl (cB, 16384, .inl ((fr)))), (hln, .inl (cL, 512, .inl ((fl)))), (hpc, .inl (cB, 600, .inl (g2_58))), (hbu, .inl (cB, 256, .inl ((fbu)))), (hmade2_47, .inl (cB, 256, .inl ((f2_50)))), (h0, .inr (7, [.int 0, .int 0, .int la_70, .ref hbu, .int (nI σ.buf.length), .int (nI σ.nd), .ref hgo, .ref hfi, .ref hma, .ref hln, .ref hau, .ref hsu, .ref hrow, .ref hmade2_47, .int (nI k2_49), .ref hbase2_48, .int bz2_52, .ref htx9, .int z_textSize, .int σ.stp, .ref hot, .int z_otherSize, .ref hpc, .int (nI q2_57), .int at2_53, .int en2_54, .int vv2_55]))] := hD
                    replace hK : va_K (dC, dI) vwCl [(cB, .byte), (cI, .int), (cL, .short), (cZ, .boolean)] s := hK
                    obtain rfl : r_69 = 1 := hw
                    refine lv_if_ne (tgt := 109) hx hb d_O_commit_104 (by decide) (fun _ => ?_) (fun h9 => absurd h9 (by decide +kernel))
                    refine lv_bipush (v := 64) hx hb d_O_commit_109 (by decide +kernel) ?_
                    refine lv_iload_n hx hb d_O_commit_111 rfl (lv_at hl 2 rfl) ?_
                    refine lv_imul hx hb d_O_commit_112 ?_
                    refine lv_topi (fun x_72 ex_72 => ?_)
                    obtain rfl : x_72 = (nI (64 * i)) := by rw [ex_72]; exact (show nI 64 * nI i = nI (64 * i) from pk_mul _ _)
                    clear ex_72
                    refine lv_iload_n hx hb d_O_commit_113 rfl (lv_at hl 0 rfl) ?_
                    refine lv_iadd hx hb d_O_commit_114 ?_
                    refine lv_topi (fun x_73 ex_73 => ?_)
                    obtain rfl : x_73 = (nI (64 * i + d.count)) := by rw [ex_73]; exact nI_add _ _
                    clear ex_73
                    refine lv_istore (lv' := [(4, .int (nI (64 * i + d.count))), (3, .int (nI d.count)), (0, .ref h0), (1, .int (nI i)), (2, .int a2)]) hx hb d_O_commit_115 hl (by decide) rfl (fun ls hl => ?_)
                    refine lv_aload_n hx hb d_O_commit_117 rfl (lv_at hl 2 rfl) ?_
                    refine lv_iload hx hb d_O_commit_118 (lv_at hl 0 rfl) ?_
                    have hPc := hP.sub (ws' := [(h0, .inr (7, [.int 0, .int 0, .int la_70, .ref hbu, .int (nI σ.buf.length), .int (nI σ.nd), .ref hgo, .ref hfi, .ref hma, .ref hln, .ref hau, .ref hsu, .ref hrow, .ref hmade2_47, .int (nI k2_49), .ref hbase2_48, .int bz2_52, .ref htx9, .int z_textSize, .int σ.stp, .ref hot, .int z_otherSize, .ref hpc, .int (nI q2_57), .int at2_53, .int en2_54, .int vv2_55])), (hln, .inl (cL, 512, .inl (((fl)))))]) [13, 9] rfl
                    have hKc := hK.sub (tys' := [(cL, .short)]) [2] rfl
                    refine ps_i (va_runV (As := [.int (nI (64 * i + d.count))]) (rest := []) ⟨hx, hb, hml, hown, hw0⟩ (o_begins l dC dI h0 0 0 la_70 (.ref hbu) (nI σ.buf.length) (nI σ.nd) (.ref hgo) (.ref hfi) (.ref hma) (.ref hau) (.ref hsu) (.ref hrow) (.ref hmade2_47) (nI k2_49) (.ref hbase2_48) bz2_52 (.ref htx9) z_textSize σ.stp (.ref hot) z_otherSize (.ref hpc) (nI q2_57) at2_53 en2_54 vv2_55 hln cL ((fl)) (lnq (pqS σ.ds)) (64 * i + d.count) (by first | assumption | decide | omega) (by first | assumption | decide | omega) (by first | assumption | decide | omega)) (cwV 1 hw0 (gd_Vm wm_343 wm_344 wm_345 wm_243 wm_346) rfl rfl rfl (by decide +kernel) ⟨by decide +kernel, by decide +kernel⟩) (prV_R hPc hKc hN (va_recv hKc hPc (ci := 7) (q0 := 0) rfl rfl)) rfl rfl hl.1 rfl (lv_room (Nat.le_of_ble_eq_true rfl)) d_O_commit_120 ⟨by decide +kernel, by decide +kernel⟩) (fun r_74 hr_74 => ?_)
                    obtain rfl : r_74 = (nI (bgs (lnq (pqS σ.ds)) (64 * i + d.count))) := hr_74
                    refine lv_istore (lv' := [(5, .int (nI (bgs (lnq (pqS σ.ds)) (64 * i + d.count)))), (4, .int (nI (64 * i + d.count))), (3, .int (nI d.count)), (0, .ref h0), (1, .int (nI i)), (2, .int a2)]) hx hb d_O_commit_123 hl (by decide) rfl (fun ls hl => ?_)
                    refine lv_sipush (v := 16383) hx hb d_O_commit_125 (by decide +kernel) ?_
                    refine lv_istore (lv' := [(6, .int 16383), (5, .int (nI (bgs (lnq (pqS σ.ds)) (64 * i + d.count)))), (4, .int (nI (64 * i + d.count))), (3, .int (nI d.count)), (0, .ref h0), (1, .int (nI i)), (2, .int a2)]) hx hb d_O_commit_128 hl (by decide) rfl (fun ls hl => ?_)
                    have hq512 : 64 * i + d.count < 512 := (by omega)
                    have hpn : pqS σ.ds (64 * i + d.count) = none := cm_nn hdi hdk.2 hc64
                    have hfu : frb (lnq (pqS σ.ds)) 512 + blk q2_57 ≤ 512 := (by have h9 := frb_us (fun i d e => (hs.ds i d e).2) 8; rw [show 64 * 8 = 512 from rfl] at h9; rw [h9]; omega)
                    obtain ⟨hbn, hrow2⟩ := row_cm hrw hq512 hpn hPt hfu
                    rw [← shu_0 fr q2_57] at hP hD
                    refine lo_shu h0 0 0 la_70 (.ref hbu) (nI σ.buf.length) (nI σ.nd) (.ref hgo) (.ref hfi) (.ref hma) (.ref hln) (.ref hau) (.ref hsu) (.ref hmade2_47) (nI k2_49) (.ref hbase2_48) bz2_52 (.ref htx9) z_textSize σ.stp (.ref hot) z_otherSize (.ref hpc) at2_53 en2_54 vv2_55 hrow cB fr q2_57 (bgs (lnq (pqS σ.ds)) (64 * i + d.count)) ([(hgo, .inl (cZ, 8, .inl (fg))), (hfi, .inl (cI, 8, .inl (ff))), (hma, .inl (cI, 8, .inl (fm))), (hau, .inl (cI, 512, .inl (fa))), (hsu, .inl (cI, 512, .inl (fs))), (htx9, .inl (cB, 256, .inl (ft))), (hot, .inl (cB, 256, .inl (fo))), (hbase2_48, .inl (cB, 256, .inl (fb2_51))), (hln, .inl (cL, 512, .inl ((fl)))), (hpc, .inl (cB, 600, .inl (g2_58))), (hbu, .inl (cB, 256, .inl ((fbu)))), (hmade2_47, .inl (cB, 256, .inl ((f2_50))))]) i a2 d.count (64 * i + d.count) hbn hx hb hml hown hw0 hN (hK.sub (tys' := [(cB, .byte)]) [0] rfl) hA (fun H locs hP hD hS ls hl => ?_) (16384 - ((bgs (lnq (pqS σ.ds)) (64 * i + d.count)) + q2_57) + 1) 0 (by omega) (by omega) _ _ (hP.sub (ws' := [(h0, .inr (7, [.int 0, .int 0, .int la_70, .ref hbu, .int (nI σ.buf.length), .int (nI σ.nd), .ref hgo, .ref hfi, .ref hma, .ref hln, .ref hau, .ref hsu, .ref hrow, .ref hmade2_47, .int (nI k2_49), .ref hbase2_48, .int bz2_52, .ref htx9, .int z_textSize, .int σ.stp, .ref hot, .int z_otherSize, .ref hpc, .int (nI q2_57), .int at2_53, .int en2_54, .int vv2_55])), (hrow, .inl (cB, 16384, .inl ((shu fr q2_57 16384)))), (hgo, .inl (cZ, 8, .inl (fg))), (hfi, .inl (cI, 8, .inl (ff))), (hma, .inl (cI, 8, .inl (fm))), (hau, .inl (cI, 512, .inl (fa))), (hsu, .inl (cI, 512, .inl (fs))), (htx9, .inl (cB, 256, .inl (ft))), (hot, .inl (cB, 256, .inl (fo))), (hbase2_48, .inl (cB, 256, .inl (fb2_51))), (hln, .inl (cL, 512, .inl ((fl)))), (hpc, .inl (cB, 600, .inl (g2_58))), (hbu, .inl (cB, 256, .inl ((fbu)))), (hmade2_47, .inl (cB, 256, .inl ((f2_50))))]) [13, 8, 0, 1, 2, 3, 4, 5, 6, 7, 9, 10, 11, 12] rfl) (hD.sub (ws' := [(h0, .inr (7, [.int 0, .int 0, .int la_70, .ref hbu, .int (nI σ.buf.length), .int (nI σ.nd), .ref hgo, .ref hfi, .ref hma, .ref hln, .ref hau, .ref hsu, .ref hrow, .ref hmade2_47, .int (nI k2_49), .ref hbase2_48, .int bz2_52, .ref htx9, .int z_textSize, .int σ.stp, .ref hot, .int z_otherSize, .ref hpc, .int (nI q2_57), .int at2_53, .int en2_54, .int vv2_55])), (hrow, .inl (cB, 16384, .inl ((shu fr q2_57 16384)))), (hgo, .inl (cZ, 8, .inl (fg))), (hfi, .inl (cI, 8, .inl (ff))), (hma, .inl (cI, 8, .inl (fm))), (hau, .inl (cI, 512, .inl (fa))), (hsu, .inl (cI, 512, .inl (fs))), (htx9, .inl (cB, 256, .inl (ft))), (hot, .inl (cB, 256, .inl (fo))), (hbase2_48, .inl (cB, 256, .inl (fb2_51))), (hln, .inl (cL, 512, .inl ((fl)))), (hpc, .inl (cB, 600, .inl (g2_58))), (hbu, .inl (cB, 256, .inl ((fbu)))), (hmade2_47, .inl (cB, 256, .inl ((f2_50))))]) [13, 8, 0, 1, 2, 3, 4, 5, 6, 7, 9, 10, 11, 12] (by decide) rfl) hS ls (lv_sub hl [0, 4, 5, 6, 3, 2, 1] rfl)
                    rw [show 16384 - (16384 - ((bgs (lnq (pqS σ.ds)) (64 * i + d.count)) + q2_57)) = (bgs (lnq (pqS σ.ds)) (64 * i + d.count)) + q2_57 by omega] at hP hD
                    replace hP : va_P (dC, dI) vwCl [(h0, .inr (7, [.int 0, .int 0, .int la_70, .ref hbu, .int (nI σ.buf.length), .int (nI σ.nd), .ref hgo, .ref hfi, .ref hma, .ref hln, .ref hau, .ref hsu, .ref hrow, .ref hmade2_47, .int (nI k2_49), .ref hbase2_48, .int bz2_52, .ref htx9, .int z_textSize, .int σ.stp, .ref hot, .int z_otherSize, .ref hpc, .int (nI q2_57), .int at2_53, .int en2_54, .int vv2_55])), (hrow, .inl (cB, 16384, .inl ((shu fr q2_57 ((bgs (lnq (pqS σ.ds)) (64 * i + d.count)) + q2_57))))), (hgo, .inl (cZ, 8, .inl (fg))), (hfi, .inl (cI, 8, .inl (ff))), (hma, .inl (cI, 8, .inl (fm))), (hau, .inl (cI, 512, .inl (fa))), (hsu, .inl (cI, 512, .inl (fs))), (htx9, .inl (cB, 256, .inl (ft))), (hot, .inl (cB, 256, .inl (fo))), (hbase2_48, .inl (cB, 256, .inl (fb2_51))), (hln, .inl (cL, 512, .inl ((fl)))), (hpc, .inl (cB, 600, .inl (g2_58))), (hbu, .inl (cB, 256, .inl ((fbu)))), (hmade2_47, .inl (cB, 256, .inl ((f2_50))))] H := hP
                    replace hD : va_D A [(h0, .inr (7, [.int 0, .int 0, .int la_70, .ref hbu, .int (nI σ.buf.length), .int (nI σ.nd), .ref hgo, .ref hfi, .ref hma, .ref hln, .ref hau, .ref hsu, .ref hrow, .ref hmade2_47, .int (nI k2_49), .ref hbase2_48, .int bz2_52, .ref htx9, .int z_textSize, .int σ.stp, .ref hot, .int z_otherSize, .ref hpc, .int (nI q2_57), .int at2_53, .int en2_54, .int vv2_55])), (hrow, .inl (cB, 16384, .inl ((shu fr q2_57 ((bgs (lnq (pqS σ.ds)) (64 * i + d.count)) + q2_57))))), (hgo, .inl (cZ, 8, .inl (fg))), (hfi, .inl (cI, 8, .inl (ff))), (hma, .inl (cI, 8, .inl (fm))), (hau, .inl (cI, 512, .inl (fa))), (hsu, .inl (cI, 512, .inl (fs))), (htx9, .inl (cB, 256, .inl (ft))), (hot, .inl (cB, 256, .inl (fo))), (hbase2_48, .inl (cB, 256, .inl (fb2_51))), (hln, .inl (cL, 512, .inl ((fl)))), (hpc, .inl (cB, 600, .inl (g2_58))), (hbu, .inl (cB, 256, .inl ((fbu)))), (hmade2_47, .inl (cB, 256, .inl ((f2_50))))] := hD
                    have hl := lv_sub hl [1, 2, 3, 4, 5, 6] rfl
                    have hl : lv_has ls 7 [(0, .ref h0), (1, .int (nI i)), (2, .int a2), (3, .int (nI d.count)), (4, .int (nI (64 * i + d.count))), (5, .int (nI (bgs (lnq (pqS σ.ds)) (64 * i + d.count))))] := hl
                    refine lv_iconst (v := 0) hx hb d_O_commit_167 (by decide) ?_
                    refine lv_istore (lv' := [(6, .int 0), (0, .ref h0), (1, .int (nI i)), (2, .int a2), (3, .int (nI d.count)), (4, .int (nI (64 * i + d.count))), (5, .int (nI (bgs (lnq (pqS σ.ds)) (64 * i + d.count))))]) hx hb d_O_commit_168 hl (by decide) rfl (fun ls hl => ?_)
                    rw [← cpw_0 (shu fr q2_57 ((bgs (lnq (pqS σ.ds)) (64 * i + d.count)) + q2_57)) g2_58 (bgs (lnq (pqS σ.ds)) (64 * i + d.count))] at hP hD
                    refine lo_cpw h0 0 0 la_70 (.ref hbu) (nI σ.buf.length) (nI σ.nd) (.ref hgo) (.ref hfi) (.ref hma) (.ref hln) (.ref hau) (.ref hsu) (.ref hmade2_47) (nI k2_49) (.ref hbase2_48) bz2_52 (.ref htx9) z_textSize σ.stp (.ref hot) z_otherSize at2_53 en2_54 vv2_55 hrow cB (shu fr q2_57 ((bgs (lnq (pqS σ.ds)) (64 * i + d.count)) + q2_57)) hpc g2_58 q2_57 (bgs (lnq (pqS σ.ds)) (64 * i + d.count)) ([(hgo, .inl (cZ, 8, .inl (fg))), (hfi, .inl (cI, 8, .inl (ff))), (hma, .inl (cI, 8, .inl (fm))), (hau, .inl (cI, 512, .inl (fa))), (hsu, .inl (cI, 512, .inl (fs))), (htx9, .inl (cB, 256, .inl (ft))), (hot, .inl (cB, 256, .inl (fo))), (hbase2_48, .inl (cB, 256, .inl (fb2_51))), (hln, .inl (cL, 512, .inl ((fl)))), (hbu, .inl (cB, 256, .inl ((fbu)))), (hmade2_47, .inl (cB, 256, .inl ((f2_50))))]) i a2 d.count (64 * i + d.count) hbn hn514 hx hb hml hown hw0 hN (hK.sub (tys' := [(cB, .byte)]) [0] rfl) hA (fun H locs hP hD hS ls hl => ?_) (q2_57 + 1) 0 (by omega) (by omega) _ _ (hP.sub (ws' := [(h0, .inr (7, [.int 0, .int 0, .int la_70, .ref hbu, .int (nI σ.buf.length), .int (nI σ.nd), .ref hgo, .ref hfi, .ref hma, .ref hln, .ref hau, .ref hsu, .ref hrow, .ref hmade2_47, .int (nI k2_49), .ref hbase2_48, .int bz2_52, .ref htx9, .int z_textSize, .int σ.stp, .ref hot, .int z_otherSize, .ref hpc, .int (nI q2_57), .int at2_53, .int en2_54, .int vv2_55])), (hrow, .inl (cB, 16384, .inl ((cpw (shu fr q2_57 ((bgs (lnq (pqS σ.ds)) (64 * i + d.count)) + q2_57)) g2_58 (bgs (lnq (pqS σ.ds)) (64 * i + d.count)) 0)))), (hpc, .inl (cB, 600, .inl (g2_58))), (hgo, .inl (cZ, 8, .inl (fg))), (hfi, .inl (cI, 8, .inl (ff))), (hma, .inl (cI, 8, .inl (fm))), (hau, .inl (cI, 512, .inl (fa))), (hsu, .inl (cI, 512, .inl (fs))), (htx9, .inl (cB, 256, .inl (ft))), (hot, .inl (cB, 256, .inl (fo))), (hbase2_48, .inl (cB, 256, .inl (fb2_51))), (hln, .inl (cL, 512, .inl ((fl)))), (hbu, .inl (cB, 256, .inl ((fbu)))), (hmade2_47, .inl (cB, 256, .inl ((f2_50))))]) [0, 1, 11, 2, 3, 4, 5, 6, 7, 8, 9, 10, 12, 13] rfl) (hD.sub (ws' := [(h0, .inr (7, [.int 0, .int 0, .int la_70, .ref hbu, .int (nI σ.buf.length), .int (nI σ.nd), .ref hgo, .ref hfi, .ref hma, .ref hln, .ref hau, .ref hsu, .ref hrow, .ref hmade2_47, .int (nI k2_49), .ref hbase2_48, .int bz2_52, .ref htx9, .int z_textSize, .int σ.stp, .ref hot, .int z_otherSize, .ref hpc, .int (nI q2_57), .int at2_53, .int en2_54, .int vv2_55])), (hrow, .inl (cB, 16384, .inl ((cpw (shu fr q2_57 ((bgs (lnq (pqS σ.ds)) (64 * i + d.count)) + q2_57)) g2_58 (bgs (lnq (pqS σ.ds)) (64 * i + d.count)) 0)))), (hpc, .inl (cB, 600, .inl (g2_58))), (hgo, .inl (cZ, 8, .inl (fg))), (hfi, .inl (cI, 8, .inl (ff))), (hma, .inl (cI, 8, .inl (fm))), (hau, .inl (cI, 512, .inl (fa))), (hsu, .inl (cI, 512, .inl (fs))), (htx9, .inl (cB, 256, .inl (ft))), (hot, .inl (cB, 256, .inl (fo))), (hbase2_48, .inl (cB, 256, .inl (fb2_51))), (hln, .inl (cL, 512, .inl ((fl)))), (hbu, .inl (cB, 256, .inl ((fbu)))), (hmade2_47, .inl (cB, 256, .inl ((f2_50))))]) [0, 1, 11, 2, 3, 4, 5, 6, 7, 8, 9, 10, 12, 13] (by decide) rfl) hS ls (lv_sub hl [0, 1, 2, 3, 4, 5, 6] rfl)
                    replace hP : va_P (dC, dI) vwCl [(h0, .inr (7, [.int 0, .int 0, .int la_70, .ref hbu, .int (nI σ.buf.length), .int (nI σ.nd), .ref hgo, .ref hfi, .ref hma, .ref hln, .ref hau, .ref hsu, .ref hrow, .ref hmade2_47, .int (nI k2_49), .ref hbase2_48, .int bz2_52, .ref htx9, .int z_textSize, .int σ.stp, .ref hot, .int z_otherSize, .ref hpc, .int (nI q2_57), .int at2_53, .int en2_54, .int vv2_55])), (hrow, .inl (cB, 16384, .inl ((cpw (shu fr q2_57 ((bgs (lnq (pqS σ.ds)) (64 * i + d.count)) + q2_57)) g2_58 (bgs (lnq (pqS σ.ds)) (64 * i + d.count)) q2_57)))), (hpc, .inl (cB, 600, .inl (g2_58))), (hgo, .inl (cZ, 8, .inl (fg))), (hfi, .inl (cI, 8, .inl (ff))), (hma, .inl (cI, 8, .inl (fm))), (hau, .inl (cI, 512, .inl (fa))), (hsu, .inl (cI, 512, .inl (fs))), (htx9, .inl (cB, 256, .inl (ft))), (hot, .inl (cB, 256, .inl (fo))), (hbase2_48, .inl (cB, 256, .inl (fb2_51))), (hln, .inl (cL, 512, .inl ((fl)))), (hbu, .inl (cB, 256, .inl ((fbu)))), (hmade2_47, .inl (cB, 256, .inl ((f2_50))))] H := hP
                    replace hD : va_D A [(h0, .inr (7, [.int 0, .int 0, .int la_70, .ref hbu, .int (nI σ.buf.length), .int (nI σ.nd), .ref hgo, .ref hfi, .ref hma, .ref hln, .ref hau, .ref hsu, .ref hrow, .ref hmade2_47, .int (nI k2_49), .ref hbase2_48, .int bz2_52, .ref htx9, .int z_textSize, .int σ.stp, .ref hot, .int z_otherSize, .ref hpc, .int (nI q2_57), .int at2_53, .int en2_54, .int vv2_55])), (hrow, .inl (cB, 16384, .inl ((cpw (shu fr q2_57 ((bgs (lnq (pqS σ.ds)) (64 * i + d.count)) + q2_57)) g2_58 (bgs (lnq (pqS σ.ds)) (64 * i + d.count)) q2_57)))), (hpc, .inl (cB, 600, .inl (g2_58))), (hgo, .inl (cZ, 8, .inl (fg))), (hfi, .inl (cI, 8, .inl (ff))), (hma, .inl (cI, 8, .inl (fm))), (hau, .inl (cI, 512, .inl (fa))), (hsu, .inl (cI, 512, .inl (fs))), (htx9, .inl (cB, 256, .inl (ft))), (hot, .inl (cB, 256, .inl (fo))), (hbase2_48, .inl (cB, 256, .inl (fb2_51))), (hln, .inl (cL, 512, .inl ((fl)))), (hbu, .inl (cB, 256, .inl ((fbu)))), (hmade2_47, .inl (cB, 256, .inl ((f2_50))))] := hD
                    have hl := lv_sub hl [1, 2, 3, 4, 5] rfl
                    have hl : lv_has ls 7 [(0, .ref h0), (1, .int (nI i)), (2, .int a2), (3, .int (nI d.count)), (4, .int (nI (64 * i + d.count)))] := hl
                    refine lv_aload_n hx hb d_O_commit_202 rfl (lv_at hl 0 rfl) ?_
                    refine va_get (D := (dC, dI)) (ci := 7) (v := .ref hln) (C := R_O) (T := F_O) (N := 27) hx hb hw0 in_O hown hK hP 0 rfl rfl 9 (by decide) (hw0 (.fieldLink R_O 28 "TextKeeperModel" "lengths" "[S") wm_289) (fun _ h9 => h9) rfl d_O_commit_203 ?_
                    refine lv_iload hx hb d_O_commit_206 (lv_at hl 4 rfl) ?_
                    refine lv_aload_n hx hb d_O_commit_208 rfl (lv_at hl 0 rfl) ?_
                    refine va_get (D := (dC, dI)) (ci := 7) (v := .int (nI q2_57)) (C := R_O) (T := F_O) (N := 27) hx hb hw0 in_O hown hK hP 0 rfl rfl 23 (by decide) (hw0 (.fieldLink R_O 125 "TextKeeperModel" "pieceSize" "I") wm_239) (fun _ h9 => h9) rfl d_O_commit_209 ?_
                    obtain ⟨x_75, ex_75⟩ : ∃ y : Int32, (nI q2_57).toInt16.toInt32 = y := ⟨_, rfl⟩
                    refine lv_i2s (v := x_75) hx hb d_O_commit_212 ex_75 ?_
                    refine va_sast hx hb hK hP hD hS 11 2 rfl rfl (vp_in_nI (by omega) (by decide)) d_O_commit_213 (fun H locs hP hD hS => ?_)
                    replace hP : va_P (dC, dI) vwCl [(h0, .inr (7, [.int 0, .int 0, .int la_70, .ref hbu, .int (nI σ.buf.length), .int (nI σ.nd), .ref hgo, .ref hfi, .ref hma, .ref hln, .ref hau, .ref hsu, .ref hrow, .ref hmade2_47, .int (nI k2_49), .ref hbase2_48, .int bz2_52, .ref htx9, .int z_textSize, .int σ.stp, .ref hot, .int z_otherSize, .ref hpc, .int (nI q2_57), .int at2_53, .int en2_54, .int vv2_55])), (hrow, .inl (cB, 16384, .inl ((cpw (shu fr q2_57 ((bgs (lnq (pqS σ.ds)) (64 * i + d.count)) + q2_57)) g2_58 (bgs (lnq (pqS σ.ds)) (64 * i + d.count)) q2_57)))), (hpc, .inl (cB, 600, .inl (g2_58))), (hgo, .inl (cZ, 8, .inl (fg))), (hfi, .inl (cI, 8, .inl (ff))), (hma, .inl (cI, 8, .inl (fm))), (hau, .inl (cI, 512, .inl (fa))), (hsu, .inl (cI, 512, .inl (fs))), (htx9, .inl (cB, 256, .inl (ft))), (hot, .inl (cB, 256, .inl (fo))), (hbase2_48, .inl (cB, 256, .inl (fb2_51))), (hln, .inl (cL, 512, .inl (upd ((fl)) (Int32.toNatClampNeg (nI (64 * i + d.count))) (vp_nar .short (x_75))))), (hbu, .inl (cB, 256, .inl ((fbu)))), (hmade2_47, .inl (cB, 256, .inl ((f2_50))))] H := hP
                    replace hD : va_D A [(h0, .inr (7, [.int 0, .int 0, .int la_70, .ref hbu, .int (nI σ.buf.length), .int (nI σ.nd), .ref hgo, .ref hfi, .ref hma, .ref hln, .ref hau, .ref hsu, .ref hrow, .ref hmade2_47, .int (nI k2_49), .ref hbase2_48, .int bz2_52, .ref htx9, .int z_textSize, .int σ.stp, .ref hot, .int z_otherSize, .ref hpc, .int (nI q2_57), .int at2_53, .int en2_54, .int vv2_55])), (hrow, .inl (cB, 16384, .inl ((cpw (shu fr q2_57 ((bgs (lnq (pqS σ.ds)) (64 * i + d.count)) + q2_57)) g2_58 (bgs (lnq (pqS σ.ds)) (64 * i + d.count)) q2_57)))), (hpc, .inl (cB, 600, .inl (g2_58))), (hgo, .inl (cZ, 8, .inl (fg))), (hfi, .inl (cI, 8, .inl (ff))), (hma, .inl (cI, 8, .inl (fm))), (hau, .inl (cI, 512, .inl (fa))), (hsu, .inl (cI, 512, .inl (fs))), (htx9, .inl (cB, 256, .inl (ft))), (hot, .inl (cB, 256, .inl (fo))), (hbase2_48, .inl (cB, 256, .inl (fb2_51))), (hln, .inl (cL, 512, .inl (upd ((fl)) (Int32.toNatClampNeg (nI (64 * i + d.count))) (vp_nar .short (x_75))))), (hbu, .inl (cB, 256, .inl ((fbu)))), (hmade2_47, .inl (cB, 256, .inl ((f2_50))))] := hD
                    have eS : upd ((fl)) (Int32.toNatClampNeg (nI (64 * i + d.count))) (vp_nar .short (x_75)) = upd fl (64 * i + d.count) (nI q2_57) := by rw [nI_clamp (by omega)] <;> exact congrArg (upd fl (64 * i + d.count)) (by rw [show vp_nar .short x_75 = x_75.toInt16.toInt32 from vp_nar_short x_75, ← ex_75, i2s_512 (by omega)]; exact i2s_512 (by omega))
                    rw [eS] at hP hD
                    refine lv_aload_n hx hb d_O_commit_214 rfl (lv_at hl 0 rfl) ?_
                    refine va_get (D := (dC, dI)) (ci := 7) (v := .ref hau) (C := R_O) (T := F_O) (N := 27) hx hb hw0 in_O hown hK hP 0 rfl rfl 10 (by decide) (hw0 (.fieldLink R_O 32 "TextKeeperModel" "authors" "[I") wm_393) (fun _ h9 => h9) rfl d_O_commit_215 ?_
                    refine lv_iload hx hb d_O_commit_218 (lv_at hl 4 rfl) ?_
                    refine lv_iload_n hx hb d_O_commit_220 rfl (lv_at hl 2 rfl) ?_
                    refine va_iast hx hb hK hP hD hS 6 1 rfl rfl (vp_in_nI (by omega) (by decide)) d_O_commit_221 (fun H locs hP hD hS => ?_)
                    replace hP : va_P (dC, dI) vwCl [(h0, .inr (7, [.int 0, .int 0, .int la_70, .ref hbu, .int (nI σ.buf.length), .int (nI σ.nd), .ref hgo, .ref hfi, .ref hma, .ref hln, .ref hau, .ref hsu, .ref hrow, .ref hmade2_47, .int (nI k2_49), .ref hbase2_48, .int bz2_52, .ref htx9, .int z_textSize, .int σ.stp, .ref hot, .int z_otherSize, .ref hpc, .int (nI q2_57), .int at2_53, .int en2_54, .int vv2_55])), (hrow, .inl (cB, 16384, .inl ((cpw (shu fr q2_57 ((bgs (lnq (pqS σ.ds)) (64 * i + d.count)) + q2_57)) g2_58 (bgs (lnq (pqS σ.ds)) (64 * i + d.count)) q2_57)))), (hpc, .inl (cB, 600, .inl (g2_58))), (hgo, .inl (cZ, 8, .inl (fg))), (hfi, .inl (cI, 8, .inl (ff))), (hma, .inl (cI, 8, .inl (fm))), (hau, .inl (cI, 512, .inl (upd (fa) (Int32.toNatClampNeg (nI (64 * i + d.count))) (a2)))), (hsu, .inl (cI, 512, .inl (fs))), (htx9, .inl (cB, 256, .inl (ft))), (hot, .inl (cB, 256, .inl (fo))), (hbase2_48, .inl (cB, 256, .inl (fb2_51))), (hln, .inl (cL, 512, .inl ((upd fl (64 * i + d.count) (nI q2_57))))), (hbu, .inl (cB, 256, .inl ((fbu)))), (hmade2_47, .inl (cB, 256, .inl ((f2_50))))] H := hP
                    replace hD : va_D A [(h0, .inr (7, [.int 0, .int 0, .int la_70, .ref hbu, .int (nI σ.buf.length), .int (nI σ.nd), .ref hgo, .ref hfi, .ref hma, .ref hln, .ref hau, .ref hsu, .ref hrow, .ref hmade2_47, .int (nI k2_49), .ref hbase2_48, .int bz2_52, .ref htx9, .int z_textSize, .int σ.stp, .ref hot, .int z_otherSize, .ref hpc, .int (nI q2_57), .int at2_53, .int en2_54, .int vv2_55])), (hrow, .inl (cB, 16384, .inl ((cpw (shu fr q2_57 ((bgs (lnq (pqS σ.ds)) (64 * i + d.count)) + q2_57)) g2_58 (bgs (lnq (pqS σ.ds)) (64 * i + d.count)) q2_57)))), (hpc, .inl (cB, 600, .inl (g2_58))), (hgo, .inl (cZ, 8, .inl (fg))), (hfi, .inl (cI, 8, .inl (ff))), (hma, .inl (cI, 8, .inl (fm))), (hau, .inl (cI, 512, .inl (upd (fa) (Int32.toNatClampNeg (nI (64 * i + d.count))) (a2)))), (hsu, .inl (cI, 512, .inl (fs))), (htx9, .inl (cB, 256, .inl (ft))), (hot, .inl (cB, 256, .inl (fo))), (hbase2_48, .inl (cB, 256, .inl (fb2_51))), (hln, .inl (cL, 512, .inl ((upd fl (64 * i + d.count) (nI q2_57))))), (hbu, .inl (cB, 256, .inl ((fbu)))), (hmade2_47, .inl (cB, 256, .inl ((f2_50))))] := hD
                    have eS : upd (fa) (Int32.toNatClampNeg (nI (64 * i + d.count))) (a2) = upd fa (64 * i + d.count) a2 := by rw [nI_clamp (by omega)] <;> exact congrArg (upd fa (64 * i + d.count)) (rfl)
                    rw [eS] at hP hD
                    refine lv_aload_n hx hb d_O_commit_222 rfl (lv_at hl 0 rfl) ?_
                    refine va_get (D := (dC, dI)) (ci := 7) (v := .ref hsu) (C := R_O) (T := F_O) (N := 27) hx hb hw0 in_O hown hK hP 0 rfl rfl 11 (by decide) (hw0 (.fieldLink R_O 35 "TextKeeperModel" "sums" "[I") wm_394) (fun _ h9 => h9) rfl d_O_commit_223 ?_
                    refine lv_iload hx hb d_O_commit_226 (lv_at hl 4 rfl) ?_
                    refine lv_aload_n hx hb d_O_commit_228 rfl (lv_at hl 0 rfl) ?_
                    refine lv_aload_n hx hb d_O_commit_229 rfl (lv_at hl 0 rfl) ?_
                    refine va_get (D := (dC, dI)) (ci := 7) (v := .ref hbu) (C := R_O) (T := F_O) (N := 27) hx hb hw0 in_O hown hK hP 0 rfl rfl 3 (by decide) (hw0 (.fieldLink R_O 13 "TextKeeperModel" "buffer" "[B") wm_247) (fun _ h9 => h9) rfl d_O_commit_230 ?_
                    refine lv_aload_n hx hb d_O_commit_233 rfl (lv_at hl 0 rfl) ?_
                    refine va_get (D := (dC, dI)) (ci := 7) (v := .int (nI σ.buf.length)) (C := R_O) (T := F_O) (N := 27) hx hb hw0 in_O hown hK hP 0 rfl rfl 4 (by decide) (hw0 (.fieldLink R_O 69 "TextKeeperModel" "size" "I") wm_245) (fun _ h9 => h9) rfl d_O_commit_234 ?_
                    have hPc := hP.sub (ws' := [(h0, .inr (7, [.int 0, .int 0, .int la_70, .ref hbu, .int (nI σ.buf.length), .int (nI σ.nd), .ref hgo, .ref hfi, .ref hma, .ref hln, .ref hau, .ref hsu, .ref hrow, .ref hmade2_47, .int (nI k2_49), .ref hbase2_48, .int bz2_52, .ref htx9, .int z_textSize, .int σ.stp, .ref hot, .int z_otherSize, .ref hpc, .int (nI q2_57), .int at2_53, .int en2_54, .int vv2_55])), (hbu, .inl (cB, 256, .inl (((fbu)))))]) [0, 12] rfl
                    have hKc := hK.sub (tys' := [(cB, .byte)]) [0] rfl
                    refine ps_i (va_runV (As := [.ref hbu, .int (nI σ.buf.length)]) (rest := [.int (nI (64 * i + d.count)), .ref hsu]) ⟨hx, hb, hml, hown, hw0⟩ (o_sum l dC dI h0 0 0 la_70 (.ref hbu) (nI σ.buf.length) (nI σ.nd) (.ref hgo) (.ref hfi) (.ref hma) (.ref hln) (.ref hau) (.ref hsu) (.ref hrow) (.ref hmade2_47) (nI k2_49) (.ref hbase2_48) bz2_52 (.ref htx9) z_textSize σ.stp (.ref hot) z_otherSize (.ref hpc) (nI q2_57) at2_53 en2_54 vv2_55 hbu cB σ.buf.length ((fbu)) σ.buf (by first | assumption | decide | omega) (by first | assumption | decide | omega)) (cwV 2 hw0 (gd_Vm wm_395 wm_396 wm_397 wm_243 wm_398) rfl rfl rfl (by decide +kernel) ⟨by decide +kernel, by decide +kernel⟩) (prV_R hPc hKc hN (va_recv hKc hPc (ci := 7) (q0 := 0) rfl rfl)) rfl rfl hl.1 rfl (lv_room (Nat.le_of_ble_eq_true rfl)) d_O_commit_237 ⟨by decide +kernel, by decide +kernel⟩) (fun r_76 hr_76 => ?_)
                    obtain rfl : r_76 = (sumL σ.buf) := hr_76
                    refine va_iast hx hb hK hP hD hS 7 1 rfl rfl (vp_in_nI (by omega) (by decide)) d_O_commit_240 (fun H locs hP hD hS => ?_)
                    replace hP : va_P (dC, dI) vwCl [(h0, .inr (7, [.int 0, .int 0, .int la_70, .ref hbu, .int (nI σ.buf.length), .int (nI σ.nd), .ref hgo, .ref hfi, .ref hma, .ref hln, .ref hau, .ref hsu, .ref hrow, .ref hmade2_47, .int (nI k2_49), .ref hbase2_48, .int bz2_52, .ref htx9, .int z_textSize, .int σ.stp, .ref hot, .int z_otherSize, .ref hpc, .int (nI q2_57), .int at2_53, .int en2_54, .int vv2_55])), (hrow, .inl (cB, 16384, .inl ((cpw (shu fr q2_57 ((bgs (lnq (pqS σ.ds)) (64 * i + d.count)) + q2_57)) g2_58 (bgs (lnq (pqS σ.ds)) (64 * i + d.count)) q2_57)))), (hpc, .inl (cB, 600, .inl (g2_58))), (hgo, .inl (cZ, 8, .inl (fg))), (hfi, .inl (cI, 8, .inl (ff))), (hma, .inl (cI, 8, .inl (fm))), (hau, .inl (cI, 512, .inl ((upd fa (64 * i + d.count) a2)))), (hsu, .inl (cI, 512, .inl (upd (fs) (Int32.toNatClampNeg (nI (64 * i + d.count))) ((sumL σ.buf))))), (htx9, .inl (cB, 256, .inl (ft))), (hot, .inl (cB, 256, .inl (fo))), (hbase2_48, .inl (cB, 256, .inl (fb2_51))), (hln, .inl (cL, 512, .inl ((upd fl (64 * i + d.count) (nI q2_57))))), (hbu, .inl (cB, 256, .inl ((fbu)))), (hmade2_47, .inl (cB, 256, .inl ((f2_50))))] H := hP
                    replace hD : va_D A [(h0, .inr (7, [.int 0, .int 0, .int la_70, .ref hbu, .int (nI σ.buf.length), .int (nI σ.nd), .ref hgo, .ref hfi, .ref hma, .ref hln, .ref hau, .ref hsu, .ref hrow, .ref hmade2_47, .int (nI k2_49), .ref hbase2_48, .int bz2_52, .ref htx9, .int z_textSize, .int σ.stp, .ref hot, .int z_otherSize, .ref hpc, .int (nI q2_57), .int at2_53, .int en2_54, .int vv2_55])), (hrow, .inl (cB, 16384, .inl ((cpw (shu fr q2_57 ((bgs (lnq (pqS σ.ds)) (64 * i + d.count)) + q2_57)) g2_58 (bgs (lnq (pqS σ.ds)) (64 * i + d.count)) q2_57)))), (hpc, .inl (cB, 600, .inl (g2_58))), (hgo, .inl (cZ, 8, .inl (fg))), (hfi, .inl (cI, 8, .inl (ff))), (hma, .inl (cI, 8, .inl (fm))), (hau, .inl (cI, 512, .inl ((upd fa (64 * i + d.count) a2)))), (hsu, .inl (cI, 512, .inl (upd (fs) (Int32.toNatClampNeg (nI (64 * i + d.count))) ((sumL σ.buf))))), (htx9, .inl (cB, 256, .inl (ft))), (hot, .inl (cB, 256, .inl (fo))), (hbase2_48, .inl (cB, 256, .inl (fb2_51))), (hln, .inl (cL, 512, .inl ((upd fl (64 * i + d.count) (nI q2_57))))), (hbu, .inl (cB, 256, .inl ((fbu)))), (hmade2_47, .inl (cB, 256, .inl ((f2_50))))] := hD
                    have eS : upd (fs) (Int32.toNatClampNeg (nI (64 * i + d.count))) ((sumL σ.buf)) = upd fs (64 * i + d.count) (sumL σ.buf) := by rw [nI_clamp (by omega)] <;> exact congrArg (upd fs (64 * i + d.count)) (rfl)
                    rw [eS] at hP hD
                    refine lv_aload_n hx hb d_O_commit_241 rfl (lv_at hl 0 rfl) ?_
                    refine va_get (D := (dC, dI)) (ci := 7) (v := .ref hma) (C := R_O) (T := F_O) (N := 27) hx hb hw0 in_O hown hK hP 0 rfl rfl 8 (by decide) (hw0 (.fieldLink R_O 25 "TextKeeperModel" "many" "[I") wm_339) (fun _ h9 => h9) rfl d_O_commit_242 ?_
                    refine lv_iload_n hx hb d_O_commit_245 rfl (lv_at hl 1 rfl) ?_
                    refine lv_dup2_11 hx hb d_O_commit_246 rfl rfl ?_
                    refine va_iald hx hb hK hP 5 1 rfl rfl (vp_in_nI (by omega) (by decide)) d_O_commit_247 ?_
                    refine lv_topi (fun x_77 ex_77 => ?_)
                    obtain rfl : x_77 = nI d.count := by rw [ex_77, nI_clamp (by omega), hfm] <;> rfl
                    clear ex_77
                    refine lv_iconst (v := 1) hx hb d_O_commit_248 (by decide) ?_
                    refine lv_iadd hx hb d_O_commit_249 ?_
                    refine lv_topi (fun x_78 ex_78 => ?_)
                    obtain rfl : x_78 = (nI (d.count + 1)) := by rw [ex_78]; exact nI_1 _
                    clear ex_78
                    refine va_iast hx hb hK hP hD hS 5 1 rfl rfl (vp_in_nI (by omega) (by decide)) d_O_commit_250 (fun H locs hP hD hS => ?_)
                    replace hP : va_P (dC, dI) vwCl [(h0, .inr (7, [.int 0, .int 0, .int la_70, .ref hbu, .int (nI σ.buf.length), .int (nI σ.nd), .ref hgo, .ref hfi, .ref hma, .ref hln, .ref hau, .ref hsu, .ref hrow, .ref hmade2_47, .int (nI k2_49), .ref hbase2_48, .int bz2_52, .ref htx9, .int z_textSize, .int σ.stp, .ref hot, .int z_otherSize, .ref hpc, .int (nI q2_57), .int at2_53, .int en2_54, .int vv2_55])), (hrow, .inl (cB, 16384, .inl ((cpw (shu fr q2_57 ((bgs (lnq (pqS σ.ds)) (64 * i + d.count)) + q2_57)) g2_58 (bgs (lnq (pqS σ.ds)) (64 * i + d.count)) q2_57)))), (hpc, .inl (cB, 600, .inl (g2_58))), (hgo, .inl (cZ, 8, .inl (fg))), (hfi, .inl (cI, 8, .inl (ff))), (hma, .inl (cI, 8, .inl (upd (fm) (Int32.toNatClampNeg (nI i)) ((nI (d.count + 1)))))), (hau, .inl (cI, 512, .inl ((upd fa (64 * i + d.count) a2)))), (hsu, .inl (cI, 512, .inl ((upd fs (64 * i + d.count) (sumL σ.buf))))), (htx9, .inl (cB, 256, .inl (ft))), (hot, .inl (cB, 256, .inl (fo))), (hbase2_48, .inl (cB, 256, .inl (fb2_51))), (hln, .inl (cL, 512, .inl ((upd fl (64 * i + d.count) (nI q2_57))))), (hbu, .inl (cB, 256, .inl ((fbu)))), (hmade2_47, .inl (cB, 256, .inl ((f2_50))))] H := hP
                    replace hD : va_D A [(h0, .inr (7, [.int 0, .int 0, .int la_70, .ref hbu, .int (nI σ.buf.length), .int (nI σ.nd), .ref hgo, .ref hfi, .ref hma, .ref hln, .ref hau, .ref hsu, .ref hrow, .ref hmade2_47, .int (nI k2_49), .ref hbase2_48, .int bz2_52, .ref htx9, .int z_textSize, .int σ.stp, .ref hot, .int z_otherSize, .ref hpc, .int (nI q2_57), .int at2_53, .int en2_54, .int vv2_55])), (hrow, .inl (cB, 16384, .inl ((cpw (shu fr q2_57 ((bgs (lnq (pqS σ.ds)) (64 * i + d.count)) + q2_57)) g2_58 (bgs (lnq (pqS σ.ds)) (64 * i + d.count)) q2_57)))), (hpc, .inl (cB, 600, .inl (g2_58))), (hgo, .inl (cZ, 8, .inl (fg))), (hfi, .inl (cI, 8, .inl (ff))), (hma, .inl (cI, 8, .inl (upd (fm) (Int32.toNatClampNeg (nI i)) ((nI (d.count + 1)))))), (hau, .inl (cI, 512, .inl ((upd fa (64 * i + d.count) a2)))), (hsu, .inl (cI, 512, .inl ((upd fs (64 * i + d.count) (sumL σ.buf))))), (htx9, .inl (cB, 256, .inl (ft))), (hot, .inl (cB, 256, .inl (fo))), (hbase2_48, .inl (cB, 256, .inl (fb2_51))), (hln, .inl (cL, 512, .inl ((upd fl (64 * i + d.count) (nI q2_57))))), (hbu, .inl (cB, 256, .inl ((fbu)))), (hmade2_47, .inl (cB, 256, .inl ((f2_50))))] := hD
                    have eS : upd (fm) (Int32.toNatClampNeg (nI i)) ((nI (d.count + 1))) = upd fm i (nI (d.count + 1)) := by rw [nI_clamp (by omega)] <;> exact congrArg (upd fm i) (rfl)
                    rw [eS] at hP hD
                    refine lv_aload_n hx hb d_O_commit_251 rfl (lv_at hl 0 rfl) ?_
                    refine lv_iconst (v := 0) hx hb d_O_commit_252 (by decide) ?_
                    refine va_put (D := (dC, dI)) (ci := 7) (v := .int 0) (ty := .int) (C := R_O) (T := F_O) (N := 27) hx hb hw0 in_O ft_O tk_O nk_O hown hK hP hD hS 0 rfl rfl 4 (by decide) (hw0 (.fieldLink R_O 69 "TextKeeperModel" "size" "I") wm_245) (fun _ h9 => h9) rfl (by decide +kernel) rfl rfl (Nat.le_of_ble_eq_true rfl) d_O_commit_253 (fun H locs hP hD hS => ?_)
                    replace hP : va_P (dC, dI) vwCl [(h0, .inr (7, [.int 0, .int 0, .int la_70, .ref hbu, .int 0, .int (nI σ.nd), .ref hgo, .ref hfi, .ref hma, .ref hln, .ref hau, .ref hsu, .ref hrow, .ref hmade2_47, .int (nI k2_49), .ref hbase2_48, .int bz2_52, .ref htx9, .int z_textSize, .int σ.stp, .ref hot, .int z_otherSize, .ref hpc, .int (nI q2_57), .int at2_53, .int en2_54, .int vv2_55])), (hrow, .inl (cB, 16384, .inl ((cpw (shu fr q2_57 ((bgs (lnq (pqS σ.ds)) (64 * i + d.count)) + q2_57)) g2_58 (bgs (lnq (pqS σ.ds)) (64 * i + d.count)) q2_57)))), (hpc, .inl (cB, 600, .inl (g2_58))), (hgo, .inl (cZ, 8, .inl (fg))), (hfi, .inl (cI, 8, .inl (ff))), (hma, .inl (cI, 8, .inl ((upd fm i (nI (d.count + 1)))))), (hau, .inl (cI, 512, .inl ((upd fa (64 * i + d.count) a2)))), (hsu, .inl (cI, 512, .inl ((upd fs (64 * i + d.count) (sumL σ.buf))))), (htx9, .inl (cB, 256, .inl (ft))), (hot, .inl (cB, 256, .inl (fo))), (hbase2_48, .inl (cB, 256, .inl (fb2_51))), (hln, .inl (cL, 512, .inl ((upd fl (64 * i + d.count) (nI q2_57))))), (hbu, .inl (cB, 256, .inl ((fbu)))), (hmade2_47, .inl (cB, 256, .inl ((f2_50))))] H := hP
                    replace hD : va_D A [(h0, .inr (7, [.int 0, .int 0, .int la_70, .ref hbu, .int 0, .int (nI σ.nd), .ref hgo, .ref hfi, .ref hma, .ref hln, .ref hau, .ref hsu, .ref hrow, .ref hmade2_47, .int (nI k2_49), .ref hbase2_48, .int bz2_52, .ref htx9, .int z_textSize, .int σ.stp, .ref hot, .int z_otherSize, .ref hpc, .int (nI q2_57), .int at2_53, .int en2_54, .int vv2_55])), (hrow, .inl (cB, 16384, .inl ((cpw (shu fr q2_57 ((bgs (lnq (pqS σ.ds)) (64 * i + d.count)) + q2_57)) g2_58 (bgs (lnq (pqS σ.ds)) (64 * i + d.count)) q2_57)))), (hpc, .inl (cB, 600, .inl (g2_58))), (hgo, .inl (cZ, 8, .inl (fg))), (hfi, .inl (cI, 8, .inl (ff))), (hma, .inl (cI, 8, .inl ((upd fm i (nI (d.count + 1)))))), (hau, .inl (cI, 512, .inl ((upd fa (64 * i + d.count) a2)))), (hsu, .inl (cI, 512, .inl ((upd fs (64 * i + d.count) (sumL σ.buf))))), (htx9, .inl (cB, 256, .inl (ft))), (hot, .inl (cB, 256, .inl (fo))), (hbase2_48, .inl (cB, 256, .inl (fb2_51))), (hln, .inl (cL, 512, .inl ((upd fl (64 * i + d.count) (nI q2_57))))), (hbu, .inl (cB, 256, .inl ((fbu)))), (hmade2_47, .inl (cB, 256, .inl ((f2_50))))] := hD
                    refine lv_iload_n hx hb d_O_commit_256 rfl (lv_at hl 3 rfl) ?_
                    have hσ : (sCommit σ (nI i) a2) = (sgC τ (va_up σ.ds i (some ⟨d.first, d.count + 1, va_up d.rv d.count (some ⟨pce σ.buf Bt, a2, sumL σ.buf⟩)⟩)), 0, nI d.count) := (by unfold sCommit; rw [if_neg (by rw [hdw]; decide), hdg]; refine (if_neg (by omega)).trans ?_; rw [hba]; refine (if_neg (by rw [hlen]; omega)).trans ?_; rw [hlen, hsp])
                    have hP9 := hP.sub (ws' := [(h0, .inr (7, [.int 0, .int 0, .int la_70, .ref hbu, .int 0, .int (nI σ.nd), .ref hgo, .ref hfi, .ref hma, .ref hln, .ref hau, .ref hsu, .ref hrow, .ref hmade2_47, .int (nI k2_49), .ref hbase2_48, .int bz2_52, .ref htx9, .int z_textSize, .int σ.stp, .ref hot, .int z_otherSize, .ref hpc, .int (nI q2_57), .int at2_53, .int en2_54, .int vv2_55])), (hbu, .inl (cB, 256, .inl ((fbu)))), (hgo, .inl (cZ, 8, .inl (fg))), (hfi, .inl (cI, 8, .inl (ff))), (hma, .inl (cI, 8, .inl ((upd fm i (nI (d.count + 1)))))), (hln, .inl (cL, 512, .inl ((upd fl (64 * i + d.count) (nI q2_57))))), (hau, .inl (cI, 512, .inl ((upd fa (64 * i + d.count) a2)))), (hsu, .inl (cI, 512, .inl ((upd fs (64 * i + d.count) (sumL σ.buf))))), (hrow, .inl (cB, 16384, .inl ((cpw (shu fr q2_57 ((bgs (lnq (pqS σ.ds)) (64 * i + d.count)) + q2_57)) g2_58 (bgs (lnq (pqS σ.ds)) (64 * i + d.count)) q2_57)))), (hmade2_47, .inl (cB, 256, .inl ((f2_50)))), (hbase2_48, .inl (cB, 256, .inl (fb2_51))), (htx9, .inl (cB, 256, .inl (ft))), (hot, .inl (cB, 256, .inl (fo))), (hpc, .inl (cB, 600, .inl (g2_58)))]) [0, 12, 3, 4, 5, 11, 6, 7, 1, 13, 10, 8, 9, 2] rfl
                    have hD9 := hD.sub (ws' := [(h0, .inr (7, [.int 0, .int 0, .int la_70, .ref hbu, .int 0, .int (nI σ.nd), .ref hgo, .ref hfi, .ref hma, .ref hln, .ref hau, .ref hsu, .ref hrow, .ref hmade2_47, .int (nI k2_49), .ref hbase2_48, .int bz2_52, .ref htx9, .int z_textSize, .int σ.stp, .ref hot, .int z_otherSize, .ref hpc, .int (nI q2_57), .int at2_53, .int en2_54, .int vv2_55])), (hbu, .inl (cB, 256, .inl ((fbu)))), (hgo, .inl (cZ, 8, .inl (fg))), (hfi, .inl (cI, 8, .inl (ff))), (hma, .inl (cI, 8, .inl ((upd fm i (nI (d.count + 1)))))), (hln, .inl (cL, 512, .inl ((upd fl (64 * i + d.count) (nI q2_57))))), (hau, .inl (cI, 512, .inl ((upd fa (64 * i + d.count) a2)))), (hsu, .inl (cI, 512, .inl ((upd fs (64 * i + d.count) (sumL σ.buf))))), (hrow, .inl (cB, 16384, .inl ((cpw (shu fr q2_57 ((bgs (lnq (pqS σ.ds)) (64 * i + d.count)) + q2_57)) g2_58 (bgs (lnq (pqS σ.ds)) (64 * i + d.count)) q2_57)))), (hmade2_47, .inl (cB, 256, .inl ((f2_50)))), (hbase2_48, .inl (cB, 256, .inl (fb2_51))), (htx9, .inl (cB, 256, .inl (ft))), (hot, .inl (cB, 256, .inl (fo))), (hpc, .inl (cB, 600, .inl (g2_58)))]) [0, 12, 3, 4, 5, 11, 6, 7, 1, 13, 10, 8, 9, 2] (by decide) rfl
                    have hK9 := hK.sub (tys' := mT cB cI cL cZ) [0, 1, 2, 3] rfl
                    exact W.iret (v := (nI d.count)) hx hb hr (fun t ht hW => ⟨⟨(nI d.count), (), rfl, (fun _ => (congrArg (fun z => z.2.2) hσ).symm), ⟨⟨hbu, hgo, hfi, hma, hln, hau, hsu, hrow, hmade2_47, hbase2_48, htx9, hot, hpc, 0, 0, la_70, 0, (nI σ.nd), (nI k2_49), bz2_52, z_textSize, σ.stp, z_otherSize, (nI q2_57), at2_53, en2_54, vv2_55, (fbu), fg, ff, (upd fm i (nI (d.count + 1))), (upd fl (64 * i + d.count) (nI q2_57)), (upd fa (64 * i + d.count) a2), (upd fs (64 * i + d.count) (sumL σ.buf)), (cpw (shu fr q2_57 ((bgs (lnq (pqS σ.ds)) (64 * i + d.count)) + q2_57)) g2_58 (bgs (lnq (pqS σ.ds)) (64 * i + d.count)) q2_57), (f2_50), fb2_51, ft, fo, g2_58⟩, ⟨(by rw [hσ]; exact (by subst hτ; exact (mOk.mk hm_dw hu_71 rfl (tx_nil _) hm_nd (up_gn hdi hm_gn) (up_fm hd9 hm_fm (fun k hk => ⟨rfl, pk_un hk⟩) ⟨hff, pk_us⟩) (by rw [← (pqS_rv (a := d.first) (b := d.count + 1) (v := ⟨pce σ.buf Bt, a2, sumL σ.buf⟩) hdi hc64)]; exact lnq_put hfl hlen) (by rw [← (pqS_rv (a := d.first) (b := d.count + 1) (v := ⟨pce σ.buf Bt, a2, sumL σ.buf⟩) hdi hc64)]; exact hrow2) (up_au hm_au (fun k j hk hj => ⟨pk_un (by omega), pk_un (by omega)⟩) (cm_au (v := ⟨pce σ.buf Bt, a2, sumL σ.buf⟩) hm_au hi8 hdi)) hm_tq hm_st))), (congrArg (fun z => z.2.1) hσ).symm⟩, by rw [ht]; exact hP9, va_K.moved hW.alike hK9, hD9⟩⟩, hS.F ht⟩) hS.2.2 d_O_commit_257
                · have hnoroom : ¬ blk q2_57 ≤ 512 - usd σ.ds 8 := (fun z => c_62 (nI_le z (by omega)))
                  refine lv_iconst (v := (-1)) hx hb d_O_commit_89 (by decide) ?_
                  have hσ : (sCommit σ (nI i) a2) = (σ, 0, (-1)) := (by unfold sCommit; rw [if_neg (by rw [hdw]; decide), hdg]; refine (if_neg (by omega)).trans ?_; rw [hba]; exact if_pos (by rw [hlen]; omega))
                  have hP9 := hP.sub (ws' := [(h0, .inr (7, [.int 0, .int 0, .int (vI σ.go), .ref hbu, .int (nI σ.buf.length), .int (nI σ.nd), .ref hgo, .ref hfi, .ref hma, .ref hln, .ref hau, .ref hsu, .ref hrow, .ref hmade2_47, .int (nI k2_49), .ref hbase2_48, .int bz2_52, .ref htx9, .int z_textSize, .int σ.stp, .ref hot, .int z_otherSize, .ref hpc, .int (nI q2_57), .int at2_53, .int en2_54, .int vv2_55])), (hbu, .inl (cB, 256, .inl ((fbu)))), (hgo, .inl (cZ, 8, .inl (fg))), (hfi, .inl (cI, 8, .inl (ff))), (hma, .inl (cI, 8, .inl (fm))), (hln, .inl (cL, 512, .inl ((fl)))), (hau, .inl (cI, 512, .inl (fa))), (hsu, .inl (cI, 512, .inl (fs))), (hrow, .inl (cB, 16384, .inl ((fr)))), (hmade2_47, .inl (cB, 256, .inl ((f2_50)))), (hbase2_48, .inl (cB, 256, .inl (fb2_51))), (htx9, .inl (cB, 256, .inl (ft))), (hot, .inl (cB, 256, .inl (fo))), (hpc, .inl (cB, 600, .inl (g2_58)))]) [10, 12, 0, 1, 2, 9, 3, 4, 8, 13, 7, 5, 6, 11] rfl
                  have hD9 := hD.sub (ws' := [(h0, .inr (7, [.int 0, .int 0, .int (vI σ.go), .ref hbu, .int (nI σ.buf.length), .int (nI σ.nd), .ref hgo, .ref hfi, .ref hma, .ref hln, .ref hau, .ref hsu, .ref hrow, .ref hmade2_47, .int (nI k2_49), .ref hbase2_48, .int bz2_52, .ref htx9, .int z_textSize, .int σ.stp, .ref hot, .int z_otherSize, .ref hpc, .int (nI q2_57), .int at2_53, .int en2_54, .int vv2_55])), (hbu, .inl (cB, 256, .inl ((fbu)))), (hgo, .inl (cZ, 8, .inl (fg))), (hfi, .inl (cI, 8, .inl (ff))), (hma, .inl (cI, 8, .inl (fm))), (hln, .inl (cL, 512, .inl ((fl)))), (hau, .inl (cI, 512, .inl (fa))), (hsu, .inl (cI, 512, .inl (fs))), (hrow, .inl (cB, 16384, .inl ((fr)))), (hmade2_47, .inl (cB, 256, .inl ((f2_50)))), (hbase2_48, .inl (cB, 256, .inl (fb2_51))), (htx9, .inl (cB, 256, .inl (ft))), (hot, .inl (cB, 256, .inl (fo))), (hpc, .inl (cB, 600, .inl (g2_58)))]) [10, 12, 0, 1, 2, 9, 3, 4, 8, 13, 7, 5, 6, 11] (by decide) rfl
                  have hK9 := hK.sub (tys' := mT cB cI cL cZ) [0, 1, 2, 3] rfl
                  exact W.iret (v := (-1)) hx hb hr (fun t ht hW => ⟨⟨(-1), (), rfl, (fun _ => (congrArg (fun z => z.2.2) hσ).symm), ⟨⟨hbu, hgo, hfi, hma, hln, hau, hsu, hrow, hmade2_47, hbase2_48, htx9, hot, hpc, 0, 0, (vI σ.go), (nI σ.buf.length), (nI σ.nd), (nI k2_49), bz2_52, z_textSize, σ.stp, z_otherSize, (nI q2_57), at2_53, en2_54, vv2_55, (fbu), fg, ff, fm, (fl), fa, fs, (fr), (f2_50), fb2_51, ft, fo, g2_58⟩, ⟨(by rw [hσ]; exact (mOk.mk hm_dw hm_la hm_sz hm_bf hm_nd hm_gn hm_fm hm_ln hm_rw hm_au hm_tq hm_st)), (congrArg (fun z => z.2.1) hσ).symm⟩, by rw [ht]; exact hP9, va_K.moved hW.alike hK9, hD9⟩⟩, hS.F ht⟩) hS.2.2 d_O_commit_90
      · have hfl64 : d.count = 64 := (nI_eq (b := 64) (by omega) (by decide)).mp c_6
        refine lv_aload_n hx hb d_O_commit_27 rfl (lv_at hl 0 rfl) ?_
        refine va_get (D := (dC, dI)) (ci := 7) (v := .int 0) (C := R_O) (T := F_O) (N := 27) hx hb hw0 in_O hown hK hP 13 rfl rfl 0 (by decide) (hw0 (.fieldLink R_O 62 "TextKeeperModel" "thrown" "I") wm_330) (fun _ h9 => h9) rfl d_O_commit_28 ?_
        refine lv_if_ne (tgt := 38) hx hb d_O_commit_31 (by decide) (fun h9 => absurd h9 (by decide +kernel)) (fun _ => ?_)
        refine lv_iconst (v := (-1)) hx hb d_O_commit_34 (by decide) ?_
        refine lv_goto (tgt := 39) hx hb d_O_commit_35 (by decide) ?_
        have hσ : (sCommit σ (nI i) a2) = (σ, 0, (-1)) := (by unfold sCommit; rw [if_neg (by rw [hdw]; decide), hdg]; exact if_pos hfl64)
        have hP9 := hP.sub (ws' := [(h0, .inr (7, [.int 0, .int 0, .int (vI σ.go), .ref hbu, .int (nI σ.buf.length), .int (nI σ.nd), .ref hgo, .ref hfi, .ref hma, .ref hln, .ref hau, .ref hsu, .ref hrow, .ref hmade, .int z_madeSize, .ref hbase, .int z_baseSize, .ref htx9, .int z_textSize, .int σ.stp, .ref hot, .int z_otherSize, .ref hpc, .int z_pieceSize, .int z_at, .int z_end, .int z_value])), (hbu, .inl (cB, 256, .inl (fbu))), (hgo, .inl (cZ, 8, .inl (fg))), (hfi, .inl (cI, 8, .inl (ff))), (hma, .inl (cI, 8, .inl (fm))), (hln, .inl (cL, 512, .inl (fl))), (hau, .inl (cI, 512, .inl (fa))), (hsu, .inl (cI, 512, .inl (fs))), (hrow, .inl (cB, 16384, .inl (fr))), (hmade, .inl (cB, 256, .inl (f))), (hbase, .inl (cB, 256, .inl (fb))), (htx9, .inl (cB, 256, .inl (ft))), (hot, .inl (cB, 256, .inl (fo))), (hpc, .inl (cB, 600, .inl (fp)))]) [13, 0, 1, 2, 3, 4, 5, 6, 7, 8, 9, 10, 11, 12] rfl
        have hD9 := hD.sub (ws' := [(h0, .inr (7, [.int 0, .int 0, .int (vI σ.go), .ref hbu, .int (nI σ.buf.length), .int (nI σ.nd), .ref hgo, .ref hfi, .ref hma, .ref hln, .ref hau, .ref hsu, .ref hrow, .ref hmade, .int z_madeSize, .ref hbase, .int z_baseSize, .ref htx9, .int z_textSize, .int σ.stp, .ref hot, .int z_otherSize, .ref hpc, .int z_pieceSize, .int z_at, .int z_end, .int z_value])), (hbu, .inl (cB, 256, .inl (fbu))), (hgo, .inl (cZ, 8, .inl (fg))), (hfi, .inl (cI, 8, .inl (ff))), (hma, .inl (cI, 8, .inl (fm))), (hln, .inl (cL, 512, .inl (fl))), (hau, .inl (cI, 512, .inl (fa))), (hsu, .inl (cI, 512, .inl (fs))), (hrow, .inl (cB, 16384, .inl (fr))), (hmade, .inl (cB, 256, .inl (f))), (hbase, .inl (cB, 256, .inl (fb))), (htx9, .inl (cB, 256, .inl (ft))), (hot, .inl (cB, 256, .inl (fo))), (hpc, .inl (cB, 600, .inl (fp)))]) [13, 0, 1, 2, 3, 4, 5, 6, 7, 8, 9, 10, 11, 12] (by decide) rfl
        have hK9 := hK.sub (tys' := mT cB cI cL cZ) [0, 1, 2, 3] rfl
        exact W.iret (v := (-1)) hx hb hr (fun t ht hW => ⟨⟨(-1), (), rfl, (fun _ => (congrArg (fun z => z.2.2) hσ).symm), ⟨⟨hbu, hgo, hfi, hma, hln, hau, hsu, hrow, hmade, hbase, htx9, hot, hpc, 0, 0, (vI σ.go), (nI σ.buf.length), (nI σ.nd), z_madeSize, z_baseSize, z_textSize, σ.stp, z_otherSize, z_pieceSize, z_at, z_end, z_value, fbu, fg, ff, fm, fl, fa, fs, fr, f, fb, ft, fo, fp⟩, ⟨(by rw [hσ]; exact (mOk.mk hm_dw hm_la hm_sz hm_bf hm_nd hm_gn hm_fm hm_ln hm_rw hm_au hm_tq hm_st)), (congrArg (fun z => z.2.1) hσ).symm⟩, by rw [ht]; exact hP9, va_K.moved hW.alike hK9, hD9⟩⟩, hS.F ht⟩) hS.2.2 d_O_commit_39
  · obtain rfl : z_down = 1 := (by have h9 := hm_dw; rw [hdw] at h9; exact h9)
    refine lv_aload_n hx hb d_O_commit_0 rfl (lv_at hl 0 rfl) ?_
    refine lv_iconst (v := 1) hx hb d_O_commit_1 (by decide) ?_
    have hPc := hP.sub (ws' := [(h0, .inr (7, [.int z_thrown, .int 1, .int (vI σ.go), .ref hbu, .int (nI σ.buf.length), .int (nI σ.nd), .ref hgo, .ref hfi, .ref hma, .ref hln, .ref hau, .ref hsu, .ref hrow, .ref hmade, .int z_madeSize, .ref hbase, .int z_baseSize, .ref htx9, .int z_textSize, .int σ.stp, .ref hot, .int z_otherSize, .ref hpc, .int z_pieceSize, .int z_at, .int z_end, .int z_value]))]) [0] rfl
    have hKc := hK.sub (tys' := []) [] rfl
    have hDc := hD.sub (ws' := [(h0, .inr (7, [.int z_thrown, .int 1, .int (vI σ.go), .ref hbu, .int (nI σ.buf.length), .int (nI σ.nd), .ref hgo, .ref hfi, .ref hma, .ref hln, .ref hau, .ref hsu, .ref hrow, .ref hmade, .int z_madeSize, .ref hbase, .int z_baseSize, .ref htx9, .int z_textSize, .int σ.stp, .ref hot, .int z_otherSize, .ref hpc, .int z_pieceSize, .int z_at, .int z_end, .int z_value]))]) [0] (by decide) rfl
    have hFc := va_free (wc := [(h0, .inr (7, [.int z_thrown, .int 1, .int (vI σ.go), .ref hbu, .int (nI σ.buf.length), .int (nI σ.nd), .ref hgo, .ref hfi, .ref hma, .ref hln, .ref hau, .ref hsu, .ref hrow, .ref hmade, .int z_madeSize, .ref hbase, .int z_baseSize, .ref htx9, .int z_textSize, .int σ.stp, .ref hot, .int z_otherSize, .ref hpc, .int z_pieceSize, .int z_at, .int z_end, .int z_value]))]) hD hS hA [0] rfl
    refine va_calli (va_runV (As := [.int 1]) (rest := []) ⟨hx, hb, hml, hown, hw0⟩ (o_runs_D l dC dI s.heap.size h0 z_thrown (vI σ.go) (.ref hbu) (nI σ.buf.length) (nI σ.nd) (.ref hgo) (.ref hfi) (.ref hma) (.ref hln) (.ref hau) (.ref hsu) (.ref hrow) (.ref hmade) z_madeSize (.ref hbase) z_baseSize (.ref htx9) z_textSize σ.stp (.ref hot) z_otherSize (.ref hpc) z_pieceSize z_at z_end z_value 1) (cwV 1 hw0 (gd_Vm wm_358 wm_359 wm_360 wm_243 wm_361) rfl rfl rfl (by decide +kernel) ⟨by decide +kernel, by decide +kernel⟩) (prV_E hPc hKc hDc hN (va_recv hKc hPc (ci := 7) (q0 := 0) rfl rfl)) rfl rfl hl.1 rfl (lv_room (Nat.le_of_ble_eq_true rfl)) d_O_commit_2 ⟨by decide +kernel, by decide +kernel⟩) hS (fun q _ h => hFc q h) hFc (fun r_79 u t H1 locs ht hvm hw hB hz1 hk1 hS => ?_)
    obtain ⟨hP1, hK1, hD1⟩ := hB
    rw [ht] at hP1
    have hK1 := va_K.moved hvm.symm hK1
    try dsimp only at hw
    obtain ⟨hP, hD⟩ := va_join (wr := [(hbu, .inl (cB, 256, .inl (fbu))), (hgo, .inl (cZ, 8, .inl (fg))), (hfi, .inl (cI, 8, .inl (ff))), (hma, .inl (cI, 8, .inl (fm))), (hln, .inl (cL, 512, .inl (fl))), (hau, .inl (cI, 512, .inl (fa))), (hsu, .inl (cI, 512, .inl (fs))), (hrow, .inl (cB, 16384, .inl (fr))), (hmade, .inl (cB, 256, .inl (f))), (hbase, .inl (cB, 256, .inl (fb))), (htx9, .inl (cB, 256, .inl (ft))), (hot, .inl (cB, 256, .inl (fo))), (hpc, .inl (cB, 600, .inl (fp)))]) (w1 := [(h0, .inr (7, [.int 1, .int 1, .int (vI σ.go), .ref hbu, .int (nI σ.buf.length), .int (nI σ.nd), .ref hgo, .ref hfi, .ref hma, .ref hln, .ref hau, .ref hsu, .ref hrow, .ref hmade, .int z_madeSize, .ref hbase, .int z_baseSize, .ref htx9, .int z_textSize, .int σ.stp, .ref hot, .int z_otherSize, .ref hpc, .int z_pieceSize, .int z_at, .int z_end, .int z_value]))]) hP hD [0] [1, 2, 3, 4, 5, 6, 7, 8, 9, 10, 11, 12, 13] rfl rfl (by decide) (by decide) hk1 hFc hP1 hD1
    generalize H1 = H at hP hS ⊢
    replace hP : va_P (dC, dI) vwCl [(hbu, .inl (cB, 256, .inl (fbu))), (hgo, .inl (cZ, 8, .inl (fg))), (hfi, .inl (cI, 8, .inl (ff))), (hma, .inl (cI, 8, .inl (fm))), (hln, .inl (cL, 512, .inl (fl))), (hau, .inl (cI, 512, .inl (fa))), (hsu, .inl (cI, 512, .inl (fs))), (hrow, .inl (cB, 16384, .inl (fr))), (hmade, .inl (cB, 256, .inl (f))), (hbase, .inl (cB, 256, .inl (fb))), (htx9, .inl (cB, 256, .inl (ft))), (hot, .inl (cB, 256, .inl (fo))), (hpc, .inl (cB, 600, .inl (fp))), (h0, .inr (7, [.int 1, .int 1, .int (vI σ.go), .ref hbu, .int (nI σ.buf.length), .int (nI σ.nd), .ref hgo, .ref hfi, .ref hma, .ref hln, .ref hau, .ref hsu, .ref hrow, .ref hmade, .int z_madeSize, .ref hbase, .int z_baseSize, .ref htx9, .int z_textSize, .int σ.stp, .ref hot, .int z_otherSize, .ref hpc, .int z_pieceSize, .int z_at, .int z_end, .int z_value]))] H := hP
    replace hD : va_D A [(hbu, .inl (cB, 256, .inl (fbu))), (hgo, .inl (cZ, 8, .inl (fg))), (hfi, .inl (cI, 8, .inl (ff))), (hma, .inl (cI, 8, .inl (fm))), (hln, .inl (cL, 512, .inl (fl))), (hau, .inl (cI, 512, .inl (fa))), (hsu, .inl (cI, 512, .inl (fs))), (hrow, .inl (cB, 16384, .inl (fr))), (hmade, .inl (cB, 256, .inl (f))), (hbase, .inl (cB, 256, .inl (fb))), (htx9, .inl (cB, 256, .inl (ft))), (hot, .inl (cB, 256, .inl (fo))), (hpc, .inl (cB, 600, .inl (fp))), (h0, .inr (7, [.int 1, .int 1, .int (vI σ.go), .ref hbu, .int (nI σ.buf.length), .int (nI σ.nd), .ref hgo, .ref hfi, .ref hma, .ref hln, .ref hau, .ref hsu, .ref hrow, .ref hmade, .int z_madeSize, .ref hbase, .int z_baseSize, .ref htx9, .int z_textSize, .int σ.stp, .ref hot, .int z_otherSize, .ref hpc, .int z_pieceSize, .int z_at, .int z_end, .int z_value]))] := hD
    replace hK : va_K (dC, dI) vwCl [(cB, .byte), (cI, .int), (cL, .short), (cZ, .boolean)] s := hK
    obtain rfl : r_79 = 0 := hw
    refine lv_if_eq (tgt := 27) hx hb d_O_commit_5 (by decide) (fun _ => ?_) (fun h9 => absurd h9 (by decide +kernel))
    refine lv_aload_n hx hb d_O_commit_27 rfl (lv_at hl 0 rfl) ?_
    refine va_get (D := (dC, dI)) (ci := 7) (v := .int 1) (C := R_O) (T := F_O) (N := 27) hx hb hw0 in_O hown hK hP 13 rfl rfl 0 (by decide) (hw0 (.fieldLink R_O 62 "TextKeeperModel" "thrown" "I") wm_330) (fun _ h9 => h9) rfl d_O_commit_28 ?_
    refine lv_if_ne (tgt := 38) hx hb d_O_commit_31 (by decide) (fun _ => ?_) (fun h9 => absurd h9 (by decide +kernel))
    refine lv_iconst (v := 0) hx hb d_O_commit_38 (by decide) ?_
    have hσ : (sCommit σ a1 a2) = (σ, 1, 0) := (by unfold sCommit; rw [if_pos hdw])
    have hP9 := hP.sub (ws' := [(h0, .inr (7, [.int 1, .int 1, .int (vI σ.go), .ref hbu, .int (nI σ.buf.length), .int (nI σ.nd), .ref hgo, .ref hfi, .ref hma, .ref hln, .ref hau, .ref hsu, .ref hrow, .ref hmade, .int z_madeSize, .ref hbase, .int z_baseSize, .ref htx9, .int z_textSize, .int σ.stp, .ref hot, .int z_otherSize, .ref hpc, .int z_pieceSize, .int z_at, .int z_end, .int z_value])), (hbu, .inl (cB, 256, .inl (fbu))), (hgo, .inl (cZ, 8, .inl (fg))), (hfi, .inl (cI, 8, .inl (ff))), (hma, .inl (cI, 8, .inl (fm))), (hln, .inl (cL, 512, .inl (fl))), (hau, .inl (cI, 512, .inl (fa))), (hsu, .inl (cI, 512, .inl (fs))), (hrow, .inl (cB, 16384, .inl (fr))), (hmade, .inl (cB, 256, .inl (f))), (hbase, .inl (cB, 256, .inl (fb))), (htx9, .inl (cB, 256, .inl (ft))), (hot, .inl (cB, 256, .inl (fo))), (hpc, .inl (cB, 600, .inl (fp)))]) [13, 0, 1, 2, 3, 4, 5, 6, 7, 8, 9, 10, 11, 12] rfl
    have hD9 := hD.sub (ws' := [(h0, .inr (7, [.int 1, .int 1, .int (vI σ.go), .ref hbu, .int (nI σ.buf.length), .int (nI σ.nd), .ref hgo, .ref hfi, .ref hma, .ref hln, .ref hau, .ref hsu, .ref hrow, .ref hmade, .int z_madeSize, .ref hbase, .int z_baseSize, .ref htx9, .int z_textSize, .int σ.stp, .ref hot, .int z_otherSize, .ref hpc, .int z_pieceSize, .int z_at, .int z_end, .int z_value])), (hbu, .inl (cB, 256, .inl (fbu))), (hgo, .inl (cZ, 8, .inl (fg))), (hfi, .inl (cI, 8, .inl (ff))), (hma, .inl (cI, 8, .inl (fm))), (hln, .inl (cL, 512, .inl (fl))), (hau, .inl (cI, 512, .inl (fa))), (hsu, .inl (cI, 512, .inl (fs))), (hrow, .inl (cB, 16384, .inl (fr))), (hmade, .inl (cB, 256, .inl (f))), (hbase, .inl (cB, 256, .inl (fb))), (htx9, .inl (cB, 256, .inl (ft))), (hot, .inl (cB, 256, .inl (fo))), (hpc, .inl (cB, 600, .inl (fp)))]) [13, 0, 1, 2, 3, 4, 5, 6, 7, 8, 9, 10, 11, 12] (by decide) rfl
    have hK9 := hK.sub (tys' := mT cB cI cL cZ) [0, 1, 2, 3] rfl
    exact W.iret (v := 0) hx hb hr (fun t ht hW => ⟨⟨0, (), rfl, (fun _ => (congrArg (fun z => z.2.2) hσ).symm), ⟨⟨hbu, hgo, hfi, hma, hln, hau, hsu, hrow, hmade, hbase, htx9, hot, hpc, 1, 1, (vI σ.go), (nI σ.buf.length), (nI σ.nd), z_madeSize, z_baseSize, z_textSize, σ.stp, z_otherSize, z_pieceSize, z_at, z_end, z_value, fbu, fg, ff, fm, fl, fa, fs, fr, f, fb, ft, fo, fp⟩, ⟨(by rw [hσ]; exact (mOk.mk hm_dw hm_la hm_sz hm_bf hm_nd hm_gn hm_fm hm_ln hm_rw hm_au hm_tq hm_st)), (congrArg (fun z => z.2.1) hσ).symm⟩, by rw [ht]; exact hP9, va_K.moved hW.alike hK9, hD9⟩⟩, hS.F ht⟩) hS.2.2 d_O_commit_39
end
section
def plD (cB cR : ClassId) (ds : Nat → Option Dc) (pl : va_W) : Prop := ∀ i d, i < 8 → ds i = some d → ∃ pl', pl.Perm (dcH cR d ++ pl') ∧ plR cB d.rv pl'
def dsOk (ds : Nat → Option Dc) : Prop := ∀ i d, ds i = some d → d.count ≤ 64 ∧ rvOk d.rv
def cfr (ds : Nat → Option Dc) : Nat → Nat
  | 0 => 0
  | n + 1 => cfr ds n + (match ds n with | none => 0 | some d => cbk (rvP d.rv) d.count)
theorem cfr_z (ds : Nat → Option Dc) : 512 - nI (cfr ds 0) = 512 := by
  show (512 : Int32) - nI 0 = 512
  decide
theorem cfr_n {ds : Nat → Option Dc} {j : Nat} (h : ds j = none) : cfr ds (j + 1) = cfr ds j := by rw [cfr, h]; rfl
theorem cfr_s {ds : Nat → Option Dc} {j : Nat} {d : Dc} (h : ds j = some d) : cfr ds (j + 1) = cfr ds j + cbk (rvP d.rv) d.count := by rw [cfr, h]
theorem dsA_n {ds : Nat → Option Dc} {j : Nat} (h : ds j = none) : dsA ds j = none := by rw [dsA, h]; rfl
theorem dsA_s {ds : Nat → Option Dc} {j : Nat} {d : Dc} (h : ds j = some d) : dsA ds j = some d.a := by rw [dsA, h]; rfl
theorem plD_of {cB cR : ClassId} {ds : Nat → Option Dc} : plD cB cR ds (pW cB cR ds) := fun _ _ hi h => ⟨_, pW_take hi h, plR_of⟩
theorem pce_len (L M : List Int32) : (pce L M).length ≤ L.length + 2 := by
  unfold pce
  split
  · next h => have := dgt_le (2 * L.length); omega
  · rw [insE_0]
    exact oneE_le _
def rcM (r : Rc) : Rv := ⟨r.S, r.au, r.sm⟩
def dcM (d : Dc) : Dm := ⟨d.first, d.count, fun j => (d.rv j).map rcM⟩
theorem dmP_M (d : Dc) : dmP (dcM d) = rvP d.rv := by
  funext j
  show ((d.rv j).map rcM).map Rv.S = (d.rv j).map Rc.S
  cases d.rv j <;> rfl
theorem bas_M (d : Dc) : bas (dcM d) = basR d.rv d.count := by
  rw [bas, dmP_M]
  rfl
def dsM (ds : Nat → Option Dc) : Nat → Option Dm := fun i => (ds i).map dcM
theorem usd_M (ds : Nat → Option Dc) : ∀ n, usd (dsM ds) n = cfr ds n
  | 0 => rfl
  | n + 1 => by
    rw [usd, cfr, usd_M ds n]
    congr 1
    show dmB ((ds n).map dcM) = _
    cases ds n with
    | none => rfl
    | some d => show cbk (dmP (dcM d)) d.count = _; rw [dmP_M]
theorem dsM_up (ds : Nat → Option Dc) (i : Nat) (o : Option Dc) : dsM (va_up ds i o) = va_up (dsM ds) i (o.map dcM) := by
  funext k
  unfold dsM va_up
  split <;> rfl
theorem dsA_up (ds : Nat → Option Dc) (i : Nat) (o : Option Dc) : dsA (va_up ds i o) = va_up (dsA ds) i (o.map Dc.a) := by
  funext k
  unfold dsA va_up
  split <;> rfl
theorem rvA_up (rv : Nat → Option Rc) (i : Nat) (o : Option Rc) : rvA (va_up rv i o) = va_up (rvA rv) i (o.map Rc.a) := by
  funext k
  unfold rvA va_up
  split <;> rfl
theorem rvM_up (rv : Nat → Option Rc) (i : Nat) (o : Option Rc) : (fun j => ((va_up rv i o) j).map rcM) = va_up (fun j => (rv j).map rcM) i (o.map rcM) := by
  funext k
  unfold va_up
  split <;> rfl
theorem rvA_cut (rv : Nat → Option Rc) (f k : Nat) : rvA (cutA f rv k) = cutA f (rvA rv) k := by
  funext j
  unfold rvA cutA
  split <;> rfl
theorem rvM_cut (rv : Nat → Option Rc) (f k : Nat) : (fun j => (cutA f rv k j).map rcM) = cutA f (fun j => (rv j).map rcM) k := by
  funext j
  unfold cutA
  split <;> rfl
theorem va_P.less {D : va_G} {cl : List vw_C} {ws ws' : va_W} {H : Heap} (h : va_P D cl ws H) (p : ws'.Sublist ws) : va_P D cl ws' H := fun k q hk => by
  obtain ⟨i, hi⟩ := List.getElem?_of_mem (p.subset (List.mem_of_getElem? hk))
  exact h i q hi
theorem va_D.less {A : Nat → Prop} {ws ws' : va_W} (h : va_D A ws) (p : ws'.Sublist ws) : va_D A ws' := by
  rw [va_D_iff] at h ⊢
  exact ⟨h.1.sublist p, fun q hq => h.2 q (p.subset hq)⟩
theorem fl_less {α : Type} {f g : Nat → List α} : ∀ {n : Nat}, (∀ j, (g j).Sublist (f j)) → (fl g n).Sublist (fl f n)
  | 0, _ => List.Sublist.refl _
  | n + 1, h => by
    rw [fl, fl]
    exact (fl_less h).append (h n)
theorem rvW_cut (cB : ClassId) (rv : Nat → Option Rc) (f k : Nat) : (rvW cB (cutA f rv k)).Sublist (rvW cB rv) := by
  refine fl_less (fun j => ?_)
  unfold cutA
  split
  · exact List.nil_sublist _
  · exact List.Sublist.refl _
theorem rvW_add {cB : ClassId} {rv : Nat → Option Rc} {j : Nat} {r : Rc} (hj : j < 64) (hn : rv j = none) : (rvW cB (va_up rv j (some r))).Perm (rcW cB r ++ rvW cB rv) := by
  have := rvW_put (cB := cB) (rv := rv) (r := r) hj
  have e : va_up rv j none = rv := funext (fun k => by unfold va_up; split <;> simp_all)
  rw [e] at this
  exact this
theorem pW_add {cB cR : ClassId} {ds : Nat → Option Dc} {i : Nat} {d : Dc} (hi : i < 8) (hn : ds i = none) : (pW cB cR (va_up ds i (some d))).Perm (dcH cR d ++ (rvW cB d.rv ++ pW cB cR ds)) := by
  have := pW_put (cB := cB) (cR := cR) (ds := ds) (d := d) hi
  rw [pW_none hn] at this
  exact this
theorem rvW_nil (cB : ClassId) : rvW cB (fun _ => none) = [] := by
  have : ∀ n, fl (fun j => rcO cB ((fun _ => none : Nat → Option Rc) j)) n = [] := by
    intro n
    induction n with
    | zero => rfl
    | succ n ih => rw [fl, ih]; rfl
  exact this 64
def ish (x y : Int32) : Int32 := (x.toUInt32 >>> (y.toUInt32 &&& Int32.toUInt32 31)).toInt32
def bc1 (i : Int32) : Int32 := i - (ish i 1 &&& 1431655765)
def bc2 (i : Int32) : Int32 := (i &&& 858993459) + (ish i 2 &&& 858993459)
def bc3 (i : Int32) : Int32 := (i + ish i 4) &&& 252645135
def bc4 (i : Int32) : Int32 := i + ish i 8
def bc5 (i : Int32) : Int32 := i + ish i 16
theorem bitc {r : Nat} (h : r < 64) : bc5 (bc4 (bc3 (bc2 (bc1 (nI r))))) &&& 63 = nI (bct 6 r) := by
  have H : ∀ r : Fin 64, bc5 (bc4 (bc3 (bc2 (bc1 (nI r.1))))) &&& 63 = nI (bct 6 r.1) := by decide +kernel
  exact H ⟨r, h⟩
end
section
set_option maxHeartbeats 4000000 in
set_option maxRecDepth 100000 in
theorem g_needPower (l : Launch) (dC : Nat → ClassId) (dI : Nat → Nat → Nat) (h0 : Nat) (v_documents : Value) (v_buffer : Value) (v_fetched : Value) (v_compared : Value) (v_maker : Value) (v_writer : Value) (i_madeDocuments : Int32) (i_fetchedSteps : Int32) (hp : Nat) (p_i_going : Int32) (p_i_writesLeft : Int32)  : Met l y_K_needPower k_K_needPower ({ frames := 0, cells := 0, slots := 0, locals := 0 } : Room) (va_Pc [.ref h0] (pc_R (dC, dI) [(h0, .inr (0, [v_documents, v_buffer, v_fetched, v_compared, v_maker, v_writer, .ref hp, .int i_madeDocuments, .int i_fetchedSteps])), (hp, .inr (4, [.int 0, .int p_i_going, .int p_i_writesLeft]))] [])) (va_Sv (fun _ => True)) 0 0 (fun _ => False) := by
  refine Met.ofW (cc := prog_1_method_21_code) (maxL := 1) (ret := none) (by decide) rfl ?_
  intro p e s m args below meth c s₁ B hml hv
  obtain ⟨rfl, hP, hK, hN⟩ := hv
  have hx := B.exec
  have hb := B.bytes
  have hr := B.returns
  have hts := atoms_spec (ws := k_K_needPower) B.pre
  have hw0 : ∀ w ∈ w0, w.before _ s = true := fun w h => hts w (List.mem_cons_of_mem _ h)
  have hown : s.vm.findClass R_K = some m.cls := findClass_of_methodNamed B.named
  have hlocks := B.notSynchronized
  have hP : va_P (dC, dI) vwCl [(h0, .inr (0, [v_documents, v_buffer, v_fetched, v_compared, v_maker, v_writer, .ref hp, .int i_madeDocuments, .int i_fetchedSteps])), (hp, .inr (4, [.int 0, .int p_i_going, .int p_i_writesLeft]))] s.heap := hP
  have hl := lv_entry ([.ref h0]) (n := 1) (Nat.le_of_ble_eq_true rfl)
  rw [lg_entry_eq]
  generalize (lg_sl ([.ref h0]) ++ List.replicate (1 - (lg_sl ([.ref h0])).length) Slot.unset).toArray = ls at hl ⊢
  have hl : lv_has ls 1 [(0, .ref h0)] := hl
  refine lv_aload_n hx hb d_K_needPower_0 rfl (lv_at hl 0 rfl) ?_
  refine va_get (D := (dC, dI)) (ci := 0) (v := .ref hp) (C := R_K) (T := F_K) (N := 9) hx hb hw0 in_K hown hK hP 0 rfl rfl 6 (by decide) (hw0 (.fieldLink R_K 45 "TextKeeper" "power" "LTextKeeper$Power;") wm_187) (fun _ h9 => h9) rfl d_K_needPower_1 ?_
  refine va_getN (D := (dC, dI)) (ci := 4) (v := .int 0) (C := R_P) (T := F_P) (N := 3) hx hb hw0 in_P hown hK hP 1 rfl rfl 0 (by decide) (va_Nw.use rfl (hN.1 (.fieldLinkNest R_K 180 "TextKeeper$Power" "down" "Z" "TextKeeper") (List.mem_of_getElem? (i := 13) rfl))) (fun _ h9 => h9) rfl d_K_needPower_4 ?_
  refine lv_if_eq (tgt := 18) hx hb d_K_needPower_7 (by decide) (fun _ => ?_) (fun h9 => absurd h9 (by decide +kernel))
  exact W.vret hx hb hr (fun t ht hW => ⟨rfl, trivial, ht⟩) (fun q h => by cases h) d_K_needPower_18
set_option maxHeartbeats 4000000 in
set_option maxRecDepth 100000 in
theorem g_docAt_N (l : Launch) (dC : Nat → ClassId) (dI : Nat → Nat → Nat) (h0 : Nat) (v_buffer : Value) (v_fetched : Value) (v_compared : Value) (v_maker : Value) (v_writer : Value) (v_power : Value) (i_madeDocuments : Int32) (i_fetchedSteps : Int32) (hd : Nat) (cD : ClassId) (fD : Nat → Option Nat) (a1 : Int32) (hdN : atN 8 fD a1 = none) : Met l y_K_documentAt k_K_documentAt ({ frames := 0, cells := 0, slots := 0, locals := 0 } : Room) (va_Pc [.ref h0, .int a1] (pc_R (dC, dI) [(h0, .inr (0, [.ref hd, v_buffer, v_fetched, v_compared, v_maker, v_writer, v_power, .int i_madeDocuments, .int i_fetchedSteps])), (hd, .inl (cD, 8, .inr (.inr (.inr (.inr (fD))))))] [(cD, .object R_D)])) (va_Sq (fun r => r = none)) 0 0 (fun _ => False) := by
  refine Met.ofW (cc := prog_1_method_23_code) (maxL := 2) (ret := (some (.object "TextKeeper$Document"))) (by decide) rfl ?_
  intro p e s m args below meth c s₁ B hml hv
  obtain ⟨rfl, hP, hK, hN⟩ := hv
  have hx := B.exec
  have hb := B.bytes
  have hr := B.returns
  have hts := atoms_spec (ws := k_K_documentAt) B.pre
  have hw0 : ∀ w ∈ w0, w.before _ s = true := fun w h => hts w (List.mem_cons_of_mem _ h)
  have hown : s.vm.findClass R_K = some m.cls := findClass_of_methodNamed B.named
  have hlocks := B.notSynchronized
  have hP : va_P (dC, dI) vwCl [(h0, .inr (0, [.ref hd, v_buffer, v_fetched, v_compared, v_maker, v_writer, v_power, .int i_madeDocuments, .int i_fetchedSteps])), (hd, .inl (cD, 8, .inr (.inr (.inr (.inr (fD))))))] s.heap := hP
  have hl := lv_entry ([.ref h0, .int a1]) (n := 2) (Nat.le_of_ble_eq_true rfl)
  rw [lg_entry_eq]
  generalize (lg_sl ([.ref h0, .int a1]) ++ List.replicate (2 - (lg_sl ([.ref h0, .int a1])).length) Slot.unset).toArray = ls at hl ⊢
  have hl : lv_has ls 2 [(0, .ref h0), (1, .int a1)] := hl
  refine lv_iload_n hx hb d_K_documentAt_0 rfl (lv_at hl 1 rfl) ?_
  refine lv_if_lt (tgt := 19) hx hb d_K_documentAt_1 (by decide) (fun c_1 => ?_) (fun c_1 => ?_)
  · refine lv_null hx hb d_K_documentAt_19 ?_
    exact W.aret (v := .null) hx hb hr (Or.inl ⟨_, rfl⟩) (Or.inl rfl) (fun t ht hW => ⟨none, rfl, rfl, ht⟩) (fun q h => by cases h) d_K_documentAt_20
  · refine lv_iload_n hx hb d_K_documentAt_4 rfl (lv_at hl 1 rfl) ?_
    refine lv_bipush (v := 8) hx hb d_K_documentAt_5 (by decide +kernel) ?_
    refine lv_icmp_ge (tgt := 19) hx hb d_K_documentAt_7 (by decide) (fun c_2 => ?_) (fun c_2 => ?_)
    · refine lv_null hx hb d_K_documentAt_19 ?_
      exact W.aret (v := .null) hx hb hr (Or.inl ⟨_, rfl⟩) (Or.inl rfl) (fun t ht hW => ⟨none, rfl, rfl, ht⟩) (fun q h => by cases h) d_K_documentAt_20
    · refine lv_aload_n hx hb d_K_documentAt_10 rfl (lv_at hl 0 rfl) ?_
      refine va_get (D := (dC, dI)) (ci := 0) (v := .ref hd) (C := R_K) (T := F_K) (N := 9) hx hb hw0 in_K hown hK hP 0 rfl rfl 0 (by decide) (hw0 (.fieldLink R_K 11 "TextKeeper" "documents" "[LTextKeeper$Document;") wm_161) (fun _ h9 => h9) rfl d_K_documentAt_11 ?_
      refine lv_iload_n hx hb d_K_documentAt_14 rfl (lv_at hl 1 rfl) ?_
      refine va_aldq hx hb hK hP 1 0 rfl rfl (x_inK (k := 8) (by decide) (by decide) c_1 c_2) d_K_documentAt_15 ?_
      refine W.eq (g2 := F0 m 16 ls [.null]) (by rw [show (fD) (Int32.toNatClampNeg a1) = none from (by have h9 := hdN; rw [atN, if_neg (fun q => q.elim c_1 c_2)] at h9; exact h9)]; rfl) ?_
      refine lv_goto (tgt := 20) hx hb d_K_documentAt_16 (by decide) ?_
      exact W.aret (v := .null) hx hb hr (Or.inl ⟨_, rfl⟩) (Or.inl rfl) (fun t ht hW => ⟨none, rfl, rfl, ht⟩) (fun q h => by cases h) d_K_documentAt_20
set_option maxHeartbeats 4000000 in
set_option maxRecDepth 100000 in
theorem g_docAt_S (l : Launch) (dC : Nat → ClassId) (dI : Nat → Nat → Nat) (h0 : Nat) (v_buffer : Value) (v_fetched : Value) (v_compared : Value) (v_maker : Value) (v_writer : Value) (v_power : Value) (i_madeDocuments : Int32) (i_fetchedSteps : Int32) (hd : Nat) (cD : ClassId) (fD : Nat → Option Nat) (a1 : Int32) (ha : Nat) (hdS : atN 8 fD a1 = some ha) : Met l y_K_documentAt k_K_documentAt ({ frames := 0, cells := 0, slots := 0, locals := 0 } : Room) (va_Pc [.ref h0, .int a1] (pc_R (dC, dI) [(h0, .inr (0, [.ref hd, v_buffer, v_fetched, v_compared, v_maker, v_writer, v_power, .int i_madeDocuments, .int i_fetchedSteps])), (hd, .inl (cD, 8, .inr (.inr (.inr (.inr (fD))))))] [(cD, .object R_D)])) (va_Sq (fun r => r = some ha)) 0 0 (fun _ => False) := by
  refine Met.ofW (cc := prog_1_method_23_code) (maxL := 2) (ret := (some (.object "TextKeeper$Document"))) (by decide) rfl ?_
  intro p e s m args below meth c s₁ B hml hv
  obtain ⟨rfl, hP, hK, hN⟩ := hv
  have hx := B.exec
  have hb := B.bytes
  have hr := B.returns
  have hts := atoms_spec (ws := k_K_documentAt) B.pre
  have hw0 : ∀ w ∈ w0, w.before _ s = true := fun w h => hts w (List.mem_cons_of_mem _ h)
  have hown : s.vm.findClass R_K = some m.cls := findClass_of_methodNamed B.named
  have hlocks := B.notSynchronized
  have hP : va_P (dC, dI) vwCl [(h0, .inr (0, [.ref hd, v_buffer, v_fetched, v_compared, v_maker, v_writer, v_power, .int i_madeDocuments, .int i_fetchedSteps])), (hd, .inl (cD, 8, .inr (.inr (.inr (.inr (fD))))))] s.heap := hP
  have hl := lv_entry ([.ref h0, .int a1]) (n := 2) (Nat.le_of_ble_eq_true rfl)
  rw [lg_entry_eq]
  generalize (lg_sl ([.ref h0, .int a1]) ++ List.replicate (2 - (lg_sl ([.ref h0, .int a1])).length) Slot.unset).toArray = ls at hl ⊢
  have hl : lv_has ls 2 [(0, .ref h0), (1, .int a1)] := hl
  refine lv_iload_n hx hb d_K_documentAt_0 rfl (lv_at hl 1 rfl) ?_
  refine lv_if_lt (tgt := 19) hx hb d_K_documentAt_1 (by decide) (fun c_1 => absurd hdS (by rw [atN, if_pos (Or.inl c_1)]; exact fun q => by cases q)) (fun c_1 => ?_)
  refine lv_iload_n hx hb d_K_documentAt_4 rfl (lv_at hl 1 rfl) ?_
  refine lv_bipush (v := 8) hx hb d_K_documentAt_5 (by decide +kernel) ?_
  refine lv_icmp_ge (tgt := 19) hx hb d_K_documentAt_7 (by decide) (fun c_2 => absurd hdS (by rw [atN, if_pos (Or.inr (show nI 8 ≤ a1 from c_2))]; exact fun q => by cases q)) (fun c_2 => ?_)
  refine lv_aload_n hx hb d_K_documentAt_10 rfl (lv_at hl 0 rfl) ?_
  refine va_get (D := (dC, dI)) (ci := 0) (v := .ref hd) (C := R_K) (T := F_K) (N := 9) hx hb hw0 in_K hown hK hP 0 rfl rfl 0 (by decide) (hw0 (.fieldLink R_K 11 "TextKeeper" "documents" "[LTextKeeper$Document;") wm_161) (fun _ h9 => h9) rfl d_K_documentAt_11 ?_
  refine lv_iload_n hx hb d_K_documentAt_14 rfl (lv_at hl 1 rfl) ?_
  refine va_aldq hx hb hK hP 1 0 rfl rfl (x_inK (k := 8) (by decide) (by decide) c_1 c_2) d_K_documentAt_15 ?_
  refine W.eq (g2 := F0 m 16 ls [.ref ha]) (by rw [show (fD) (Int32.toNatClampNeg a1) = some ha from (by have h9 := hdS; rw [atN, if_neg (fun q => q.elim c_1 c_2)] at h9; exact h9)]; rfl) ?_
  refine lv_goto (tgt := 20) hx hb d_K_documentAt_16 (by decide) ?_
  exact W.aret (v := .ref ha) hx hb hr (Or.inl ⟨_, rfl⟩) (Or.inr ⟨_, rfl⟩) (fun t ht hW => ⟨(some ha), rfl, rfl, ht⟩) (fun q h => by cases h) d_K_documentAt_20
set_option maxHeartbeats 4000000 in
set_option maxRecDepth 100000 in
theorem g_keptR_D (l : Launch) (dC : Nat → ClassId) (dI : Nat → Nat → Nat) (h0 : Nat) (v_buffer : Value) (v_fetched : Value) (v_compared : Value) (v_maker : Value) (v_writer : Value) (v_power : Value) (i_madeDocuments : Int32) (i_fetchedSteps : Int32) (hd : Nat) (cD : ClassId) (fD : Nat → Option Nat) (a1 : Int32) (a2 : Int32) (hdN : atN 8 fD a1 = none) : Met l y_K_keptRevision k_K_keptRevision ({ frames := 1, cells := 0, slots := 0, locals := 21 } : Room) (va_Pc [.ref h0, .int a1, .int a2] (pc_R (dC, dI) [(h0, .inr (0, [.ref hd, v_buffer, v_fetched, v_compared, v_maker, v_writer, v_power, .int i_madeDocuments, .int i_fetchedSteps])), (hd, .inl (cD, 8, .inr (.inr (.inr (.inr (fD))))))] [(cD, .object R_D)])) (va_Sq (fun r => r = none)) 0 0 (fun _ => False) := by
  refine Met.ofW (cc := prog_1_method_24_code) (maxL := 4) (ret := (some (.object "TextKeeper$Revision"))) (by decide) rfl ?_
  intro p e s m args below meth c s₁ B hml hv
  obtain ⟨rfl, hP, hK, hN⟩ := hv
  have hx := B.exec
  have hb := B.bytes
  have hr := B.returns
  have hts := atoms_spec (ws := k_K_keptRevision) B.pre
  have hw0 : ∀ w ∈ w0, w.before _ s = true := fun w h => hts w (List.mem_cons_of_mem _ h)
  have hown : s.vm.findClass R_K = some m.cls := findClass_of_methodNamed B.named
  have hlocks := B.notSynchronized
  have hP : va_P (dC, dI) vwCl [(h0, .inr (0, [.ref hd, v_buffer, v_fetched, v_compared, v_maker, v_writer, v_power, .int i_madeDocuments, .int i_fetchedSteps])), (hd, .inl (cD, 8, .inr (.inr (.inr (.inr (fD))))))] s.heap := hP
  have hl := lv_entry ([.ref h0, .int a1, .int a2]) (n := 4) (Nat.le_of_ble_eq_true rfl)
  rw [lg_entry_eq]
  generalize (lg_sl ([.ref h0, .int a1, .int a2]) ++ List.replicate (4 - (lg_sl ([.ref h0, .int a1, .int a2])).length) Slot.unset).toArray = ls at hl ⊢
  have hl : lv_has ls 4 [(0, .ref h0), (1, .int a1), (2, .int a2)] := hl
  refine lv_aload_n hx hb d_K_keptRevision_0 rfl (lv_at hl 0 rfl) ?_
  refine lv_iload_n hx hb d_K_keptRevision_1 rfl (lv_at hl 1 rfl) ?_
  have hPc := hP.sub (ws' := [(h0, .inr (0, [.ref hd, v_buffer, v_fetched, v_compared, v_maker, v_writer, v_power, .int i_madeDocuments, .int i_fetchedSteps])), (hd, .inl (cD, 8, .inr (.inr (.inr (.inr ((fD)))))))]) [0, 1] rfl
  have hKc := hK.sub (tys' := [(cD, .object R_D)]) [0] rfl
  refine ps_q (va_runV (As := [.int a1]) (rest := []) ⟨hx, hb, hml, hown, hw0⟩ (g_docAt_N l dC dI h0 v_buffer v_fetched v_compared v_maker v_writer v_power i_madeDocuments i_fetchedSteps hd cD (fD) a1 (by first | assumption | decide | omega)) (cwV 1 hw0 (gd_Vm wm_399 wm_400 wm_401 wm_308 wm_402) rfl rfl rfl (by decide +kernel) ⟨by decide +kernel, by decide +kernel⟩) (prV_R hPc hKc hN (va_recv hKc hPc (ci := 0) (q0 := 0) rfl rfl)) rfl rfl hl.1 rfl (lv_room (Nat.le_of_ble_eq_true rfl)) d_K_keptRevision_2 ⟨by decide +kernel, by decide +kernel⟩) (fun r_1 hr_1 => ?_)
  obtain rfl : r_1 = none := hr_1
  refine W.eq (g2 := F0 m 5 ls [.null]) rfl ?_
  refine lv_astore_nN (lv' := [(3, .null), (0, .ref h0), (1, .int a1), (2, .int a2)]) hx hb d_K_keptRevision_5 rfl hl (by decide) rfl (fun ls hl => ?_)
  refine lv_aload_nN hx hb d_K_keptRevision_6 rfl (lv_at hl 0 rfl) ?_
  refine lv_ifnonnullN hx hb d_K_keptRevision_7 ?_
  refine lv_null hx hb d_K_keptRevision_10 ?_
  refine lv_goto (tgt := 19) hx hb d_K_keptRevision_11 (by decide) ?_
  exact W.aret (v := .null) hx hb hr (Or.inl ⟨_, rfl⟩) (Or.inl rfl) (fun t ht hW => ⟨none, rfl, rfl, ht⟩) (fun q h => by cases h) d_K_keptRevision_19
set_option maxHeartbeats 4000000 in
set_option maxRecDepth 100000 in
theorem g_keptR_N (l : Launch) (dC : Nat → ClassId) (dI : Nat → Nat → Nat) (h0 : Nat) (v_buffer : Value) (v_fetched : Value) (v_compared : Value) (v_maker : Value) (v_writer : Value) (v_power : Value) (i_madeDocuments : Int32) (i_fetchedSteps : Int32) (hd : Nat) (cD : ClassId) (fD : Nat → Option Nat) (hdo : Nat) (hra : Nat) (cR : ClassId) (df : Nat) (dn : Nat) (fr : Nat → Option Nat) (a1 : Int32) (a2 : Int32) (hdS : atN 8 fD a1 = some hdo) (hdn : dn ≤ 64) (hkN : atN dn fr a2 = none) : Met l y_K_keptRevision k_K_keptRevision ({ frames := 1, cells := 0, slots := 0, locals := 21 } : Room) (va_Pc [.ref h0, .int a1, .int a2] (pc_R (dC, dI) [(h0, .inr (0, [.ref hd, v_buffer, v_fetched, v_compared, v_maker, v_writer, v_power, .int i_madeDocuments, .int i_fetchedSteps])), (hd, .inl (cD, 8, .inr (.inr (.inr (.inr (fD)))))), (hdo, .inr (5, [.ref hra, .int (nI df), .int (nI dn)])), (hra, .inl (cR, 64, .inr (.inr (.inr (.inr (fr))))))] [(cD, .object R_D), (cR, .object R_V)])) (va_Sq (fun r => r = none)) 0 0 (fun _ => False) := by
  refine Met.ofW (cc := prog_1_method_24_code) (maxL := 4) (ret := (some (.object "TextKeeper$Revision"))) (by decide) rfl ?_
  intro p e s m args below meth c s₁ B hml hv
  obtain ⟨rfl, hP, hK, hN⟩ := hv
  have hx := B.exec
  have hb := B.bytes
  have hr := B.returns
  have hts := atoms_spec (ws := k_K_keptRevision) B.pre
  have hw0 : ∀ w ∈ w0, w.before _ s = true := fun w h => hts w (List.mem_cons_of_mem _ h)
  have hown : s.vm.findClass R_K = some m.cls := findClass_of_methodNamed B.named
  have hlocks := B.notSynchronized
  have hP : va_P (dC, dI) vwCl [(h0, .inr (0, [.ref hd, v_buffer, v_fetched, v_compared, v_maker, v_writer, v_power, .int i_madeDocuments, .int i_fetchedSteps])), (hd, .inl (cD, 8, .inr (.inr (.inr (.inr (fD)))))), (hdo, .inr (5, [.ref hra, .int (nI df), .int (nI dn)])), (hra, .inl (cR, 64, .inr (.inr (.inr (.inr (fr))))))] s.heap := hP
  have hl := lv_entry ([.ref h0, .int a1, .int a2]) (n := 4) (Nat.le_of_ble_eq_true rfl)
  rw [lg_entry_eq]
  generalize (lg_sl ([.ref h0, .int a1, .int a2]) ++ List.replicate (4 - (lg_sl ([.ref h0, .int a1, .int a2])).length) Slot.unset).toArray = ls at hl ⊢
  have hl : lv_has ls 4 [(0, .ref h0), (1, .int a1), (2, .int a2)] := hl
  refine lv_aload_n hx hb d_K_keptRevision_0 rfl (lv_at hl 0 rfl) ?_
  refine lv_iload_n hx hb d_K_keptRevision_1 rfl (lv_at hl 1 rfl) ?_
  have hPc := hP.sub (ws' := [(h0, .inr (0, [.ref hd, v_buffer, v_fetched, v_compared, v_maker, v_writer, v_power, .int i_madeDocuments, .int i_fetchedSteps])), (hd, .inl (cD, 8, .inr (.inr (.inr (.inr ((fD)))))))]) [0, 1] rfl
  have hKc := hK.sub (tys' := [(cD, .object R_D)]) [0] rfl
  refine ps_q (va_runV (As := [.int a1]) (rest := []) ⟨hx, hb, hml, hown, hw0⟩ (g_docAt_S l dC dI h0 v_buffer v_fetched v_compared v_maker v_writer v_power i_madeDocuments i_fetchedSteps hd cD (fD) a1 hdo (by first | assumption | decide | omega)) (cwV 1 hw0 (gd_Vm wm_399 wm_400 wm_401 wm_308 wm_402) rfl rfl rfl (by decide +kernel) ⟨by decide +kernel, by decide +kernel⟩) (prV_R hPc hKc hN (va_recv hKc hPc (ci := 0) (q0 := 0) rfl rfl)) rfl rfl hl.1 rfl (lv_room (Nat.le_of_ble_eq_true rfl)) d_K_keptRevision_2 ⟨by decide +kernel, by decide +kernel⟩) (fun r_1 hr_1 => ?_)
  obtain rfl : r_1 = some hdo := hr_1
  refine W.eq (g2 := F0 m 5 ls [.ref hdo]) rfl ?_
  refine lv_astore_n (lv' := [(3, .ref hdo), (0, .ref h0), (1, .int a1), (2, .int a2)]) hx hb d_K_keptRevision_5 rfl hl (by decide) rfl (fun ls hl => ?_)
  refine lv_aload_n hx hb d_K_keptRevision_6 rfl (lv_at hl 0 rfl) ?_
  refine lv_ifnonnull (tgt := 14) hx hb d_K_keptRevision_7 (by decide) ?_
  refine lv_aload_n hx hb d_K_keptRevision_14 rfl (lv_at hl 0 rfl) ?_
  refine lv_iload_n hx hb d_K_keptRevision_15 rfl (lv_at hl 3 rfl) ?_
  have hPc := hP.sub (ws' := [(hdo, .inr (5, [.ref hra, .int (nI df), .int (nI dn)])), (hra, .inl (cR, 64, .inr (.inr (.inr (.inr ((fr)))))))]) [2, 3] rfl
  have hKc := hK.sub (tys' := [(cR, .object R_V)]) [1] rfl
  refine ps_q (va_runV (As := [.int a2]) (rest := []) ⟨hx, hb, hml, hown, hw0⟩ (g_keptAt_N l dC dI hdo hra cR df dn (fr) a2 (by first | assumption | decide | omega) (by first | assumption | decide | omega)) (cwV 1 hw0 (gd_Vm wm_403 wm_313 wm_314 wm_315 wm_316) rfl rfl rfl (by decide +kernel) ⟨by decide +kernel, by decide +kernel⟩) (prV_R hPc hKc hN (va_recv hKc hPc (ci := 5) (q0 := 0) rfl rfl)) rfl rfl hl.1 rfl (lv_room (Nat.le_of_ble_eq_true rfl)) d_K_keptRevision_16 ⟨by decide +kernel, by decide +kernel⟩) (fun r_2 hr_2 => ?_)
  obtain rfl : r_2 = none := hr_2
  refine W.eq (g2 := F0 m 19 ls [.null]) rfl ?_
  exact W.aret (v := .null) hx hb hr (Or.inl ⟨_, rfl⟩) (Or.inl rfl) (fun t ht hW => ⟨none, rfl, rfl, ht⟩) (fun q h => by cases h) d_K_keptRevision_19
set_option maxHeartbeats 4000000 in
set_option maxRecDepth 100000 in
theorem g_keptR_S (l : Launch) (dC : Nat → ClassId) (dI : Nat → Nat → Nat) (h0 : Nat) (v_buffer : Value) (v_fetched : Value) (v_compared : Value) (v_maker : Value) (v_writer : Value) (v_power : Value) (i_madeDocuments : Int32) (i_fetchedSteps : Int32) (hd : Nat) (cD : ClassId) (fD : Nat → Option Nat) (hdo : Nat) (hra : Nat) (cR : ClassId) (df : Nat) (dn : Nat) (fr : Nat → Option Nat) (a1 : Int32) (a2 : Int32) (ha : Nat) (hdS : atN 8 fD a1 = some hdo) (hdn : dn ≤ 64) (hkS : atN dn fr a2 = some ha) : Met l y_K_keptRevision k_K_keptRevision ({ frames := 1, cells := 0, slots := 0, locals := 21 } : Room) (va_Pc [.ref h0, .int a1, .int a2] (pc_R (dC, dI) [(h0, .inr (0, [.ref hd, v_buffer, v_fetched, v_compared, v_maker, v_writer, v_power, .int i_madeDocuments, .int i_fetchedSteps])), (hd, .inl (cD, 8, .inr (.inr (.inr (.inr (fD)))))), (hdo, .inr (5, [.ref hra, .int (nI df), .int (nI dn)])), (hra, .inl (cR, 64, .inr (.inr (.inr (.inr (fr))))))] [(cD, .object R_D), (cR, .object R_V)])) (va_Sq (fun r => r = some ha)) 0 0 (fun _ => False) := by
  refine Met.ofW (cc := prog_1_method_24_code) (maxL := 4) (ret := (some (.object "TextKeeper$Revision"))) (by decide) rfl ?_
  intro p e s m args below meth c s₁ B hml hv
  obtain ⟨rfl, hP, hK, hN⟩ := hv
  have hx := B.exec
  have hb := B.bytes
  have hr := B.returns
  have hts := atoms_spec (ws := k_K_keptRevision) B.pre
  have hw0 : ∀ w ∈ w0, w.before _ s = true := fun w h => hts w (List.mem_cons_of_mem _ h)
  have hown : s.vm.findClass R_K = some m.cls := findClass_of_methodNamed B.named
  have hlocks := B.notSynchronized
  have hP : va_P (dC, dI) vwCl [(h0, .inr (0, [.ref hd, v_buffer, v_fetched, v_compared, v_maker, v_writer, v_power, .int i_madeDocuments, .int i_fetchedSteps])), (hd, .inl (cD, 8, .inr (.inr (.inr (.inr (fD)))))), (hdo, .inr (5, [.ref hra, .int (nI df), .int (nI dn)])), (hra, .inl (cR, 64, .inr (.inr (.inr (.inr (fr))))))] s.heap := hP
  have hl := lv_entry ([.ref h0, .int a1, .int a2]) (n := 4) (Nat.le_of_ble_eq_true rfl)
  rw [lg_entry_eq]
  generalize (lg_sl ([.ref h0, .int a1, .int a2]) ++ List.replicate (4 - (lg_sl ([.ref h0, .int a1, .int a2])).length) Slot.unset).toArray = ls at hl ⊢
  have hl : lv_has ls 4 [(0, .ref h0), (1, .int a1), (2, .int a2)] := hl
  refine lv_aload_n hx hb d_K_keptRevision_0 rfl (lv_at hl 0 rfl) ?_
  refine lv_iload_n hx hb d_K_keptRevision_1 rfl (lv_at hl 1 rfl) ?_
  have hPc := hP.sub (ws' := [(h0, .inr (0, [.ref hd, v_buffer, v_fetched, v_compared, v_maker, v_writer, v_power, .int i_madeDocuments, .int i_fetchedSteps])), (hd, .inl (cD, 8, .inr (.inr (.inr (.inr ((fD)))))))]) [0, 1] rfl
  have hKc := hK.sub (tys' := [(cD, .object R_D)]) [0] rfl
  refine ps_q (va_runV (As := [.int a1]) (rest := []) ⟨hx, hb, hml, hown, hw0⟩ (g_docAt_S l dC dI h0 v_buffer v_fetched v_compared v_maker v_writer v_power i_madeDocuments i_fetchedSteps hd cD (fD) a1 hdo (by first | assumption | decide | omega)) (cwV 1 hw0 (gd_Vm wm_399 wm_400 wm_401 wm_308 wm_402) rfl rfl rfl (by decide +kernel) ⟨by decide +kernel, by decide +kernel⟩) (prV_R hPc hKc hN (va_recv hKc hPc (ci := 0) (q0 := 0) rfl rfl)) rfl rfl hl.1 rfl (lv_room (Nat.le_of_ble_eq_true rfl)) d_K_keptRevision_2 ⟨by decide +kernel, by decide +kernel⟩) (fun r_1 hr_1 => ?_)
  obtain rfl : r_1 = some hdo := hr_1
  refine W.eq (g2 := F0 m 5 ls [.ref hdo]) rfl ?_
  refine lv_astore_n (lv' := [(3, .ref hdo), (0, .ref h0), (1, .int a1), (2, .int a2)]) hx hb d_K_keptRevision_5 rfl hl (by decide) rfl (fun ls hl => ?_)
  refine lv_aload_n hx hb d_K_keptRevision_6 rfl (lv_at hl 0 rfl) ?_
  refine lv_ifnonnull (tgt := 14) hx hb d_K_keptRevision_7 (by decide) ?_
  refine lv_aload_n hx hb d_K_keptRevision_14 rfl (lv_at hl 0 rfl) ?_
  refine lv_iload_n hx hb d_K_keptRevision_15 rfl (lv_at hl 3 rfl) ?_
  have hPc := hP.sub (ws' := [(hdo, .inr (5, [.ref hra, .int (nI df), .int (nI dn)])), (hra, .inl (cR, 64, .inr (.inr (.inr (.inr ((fr)))))))]) [2, 3] rfl
  have hKc := hK.sub (tys' := [(cR, .object R_V)]) [1] rfl
  refine ps_q (va_runV (As := [.int a2]) (rest := []) ⟨hx, hb, hml, hown, hw0⟩ (g_keptAt_S l dC dI hdo hra cR df dn (fr) a2 ha (by first | assumption | decide | omega) (by first | assumption | decide | omega)) (cwV 1 hw0 (gd_Vm wm_403 wm_313 wm_314 wm_315 wm_316) rfl rfl rfl (by decide +kernel) ⟨by decide +kernel, by decide +kernel⟩) (prV_R hPc hKc hN (va_recv hKc hPc (ci := 5) (q0 := 0) rfl rfl)) rfl rfl hl.1 rfl (lv_room (Nat.le_of_ble_eq_true rfl)) d_K_keptRevision_16 ⟨by decide +kernel, by decide +kernel⟩) (fun r_2 hr_2 => ?_)
  obtain rfl : r_2 = some ha := hr_2
  refine W.eq (g2 := F0 m 19 ls [.ref ha]) rfl ?_
  exact W.aret (v := .ref ha) hx hb hr (Or.inl ⟨_, rfl⟩) (Or.inr ⟨_, rfl⟩) (fun t ht hW => ⟨(some ha), rfl, rfl, ht⟩) (fun q h => by cases h) d_K_keptRevision_19
set_option maxHeartbeats 4000000 in
set_option maxRecDepth 100000 in
theorem g_feed_F (l : Launch) (dC : Nat → ClassId) (dI : Nat → Nat → Nat) (h0 : Nat) (v_documents : Value) (v_fetched : Value) (v_compared : Value) (v_maker : Value) (v_writer : Value) (i_madeDocuments : Int32) (i_fetchedSteps : Int32) (hp : Nat) (p_i_going : Int32) (p_i_writesLeft : Int32) (hb1 : Nat) (hy : Nat) (cB : ClassId) (k : Nat) (f : Nat → Int32) (a1 : Int32) (a2 : Int32) (a3 : Int32) (a4 : Int32) (a5 : Int32) (hk : k ≤ 256) (hro : 256 < k + 20) : Met l y_K_feed k_K_feed ({ frames := 1, cells := 0, slots := 0, locals := 21 } : Room) (va_Pc [.ref h0, .int a1, .int a2, .int a3, .int a4, .int a5] (pc_R (dC, dI) [(h0, .inr (0, [v_documents, .ref hb1, v_fetched, v_compared, v_maker, v_writer, .ref hp, .int i_madeDocuments, .int i_fetchedSteps])), (hp, .inr (4, [.int 0, .int p_i_going, .int p_i_writesLeft])), (hb1, .inr (1, [.ref hy, .int (nI k)])), (hy, .inl (cB, 256, .inl (f)))] [(cB, .byte)])) (vp_Si (fun r => r = 0)) 0 0 (fun _ => False) := by
  refine Met.ofW (cc := prog_1_method_2_code) (maxL := 6) (ret := (some .boolean)) (by decide) rfl ?_
  intro p e s m args below meth c s₁ B hml hv
  obtain ⟨rfl, hP, hK, hN⟩ := hv
  have hx := B.exec
  have hb := B.bytes
  have hr := B.returns
  have hts := atoms_spec (ws := k_K_feed) B.pre
  have hw0 : ∀ w ∈ w0, w.before _ s = true := fun w h => hts w (List.mem_cons_of_mem _ h)
  have hown : s.vm.findClass R_K = some m.cls := findClass_of_methodNamed B.named
  have hlocks := B.notSynchronized
  have hP : va_P (dC, dI) vwCl [(h0, .inr (0, [v_documents, .ref hb1, v_fetched, v_compared, v_maker, v_writer, .ref hp, .int i_madeDocuments, .int i_fetchedSteps])), (hp, .inr (4, [.int 0, .int p_i_going, .int p_i_writesLeft])), (hb1, .inr (1, [.ref hy, .int (nI k)])), (hy, .inl (cB, 256, .inl (f)))] s.heap := hP
  have hl := lv_entry ([.ref h0, .int a1, .int a2, .int a3, .int a4, .int a5]) (n := 6) (Nat.le_of_ble_eq_true rfl)
  rw [lg_entry_eq]
  generalize (lg_sl ([.ref h0, .int a1, .int a2, .int a3, .int a4, .int a5]) ++ List.replicate (6 - (lg_sl ([.ref h0, .int a1, .int a2, .int a3, .int a4, .int a5])).length) Slot.unset).toArray = ls at hl ⊢
  have hl : lv_has ls 6 [(0, .ref h0), (1, .int a1), (2, .int a2), (3, .int a3), (4, .int a4), (5, .int a5)] := hl
  refine lv_aload_n hx hb d_K_feed_0 rfl (lv_at hl 0 rfl) ?_
  have hPc := hP.sub (ws' := [(h0, .inr (0, [v_documents, .ref hb1, v_fetched, v_compared, v_maker, v_writer, .ref hp, .int i_madeDocuments, .int i_fetchedSteps])), (hp, .inr (4, [.int 0, .int p_i_going, .int p_i_writesLeft]))]) [0, 1] rfl
  have hKc := hK.sub (tys' := []) [] rfl
  refine ps_v (va_runV (As := []) (rest := []) ⟨hx, hb, hml, hown, hw0⟩ (g_needPower l dC dI h0 v_documents (.ref hb1) v_fetched v_compared v_maker v_writer i_madeDocuments i_fetchedSteps hp p_i_going p_i_writesLeft) (cwV 0 hw0 (gd_Vm wm_404 wm_405 wm_406 wm_308 wm_407) rfl rfl rfl (by decide +kernel) ⟨by decide +kernel, by decide +kernel⟩) (prV_R hPc hKc hN (va_recv hKc hPc (ci := 0) (q0 := 0) rfl rfl)) rfl rfl hl.1 rfl (lv_room (Nat.le_of_ble_eq_true rfl)) d_K_feed_1 ⟨by decide +kernel, by decide +kernel⟩) ?_
  refine lv_aload_n hx hb d_K_feed_4 rfl (lv_at hl 0 rfl) ?_
  refine va_get (D := (dC, dI)) (ci := 0) (v := .ref hb1) (C := R_K) (T := F_K) (N := 9) hx hb hw0 in_K hown hK hP 0 rfl rfl 1 (by decide) (hw0 (.fieldLink R_K 18 "TextKeeper" "buffer" "LTextKeeper$Text;") wm_164) (fun _ h9 => h9) rfl d_K_feed_5 ?_
  refine lv_bipush (v := 20) hx hb d_K_feed_8 (by decide +kernel) ?_
  have hPc := hP.sub (ws' := [(hb1, .inr (1, [.ref hy, .int (nI k)]))]) [2] rfl
  have hKc := hK.sub (tys' := []) [] rfl
  refine ps_i (va_runV (As := [.int 20]) (rest := []) ⟨hx, hb, hml, hown, hw0⟩ (g_hasRoom l dC dI hb1 (.ref hy) k 20 (by first | assumption | decide | omega) (by first | assumption | decide | omega)) (cwV 1 hw0 (gd_Vm wm_408 wm_272 wm_273 wm_151 wm_274) rfl rfl rfl (by decide +kernel) ⟨by decide +kernel, by decide +kernel⟩) (prV_R hPc hKc hN (va_recv hKc hPc (ci := 1) (q0 := 0) rfl rfl)) rfl rfl hl.1 rfl (lv_room (Nat.le_of_ble_eq_true rfl)) d_K_feed_10 ⟨by decide +kernel, by decide +kernel⟩) (fun r_1 hr_1 => ?_)
  obtain rfl : r_1 = (bI (decide (20 + k ≤ 256))) := hr_1
  refine lv_if_ne (tgt := 18) hx hb d_K_feed_13 (by decide) (fun c_2 => absurd (by rw [decide_eq_false (by omega)]; rfl) c_2) (fun c_2 => ?_)
  refine lv_iconst (v := 0) hx hb d_K_feed_16 (by decide) ?_
  exact W.zret (v := 0) (ty := .boolean) hx hb hr rfl (fun t ht hW => ⟨0, rfl, rfl, ht⟩) (fun q h => by cases h) d_K_feed_17
set_option maxHeartbeats 4000000 in
set_option maxRecDepth 100000 in
theorem g_feed_T (l : Launch) (dC : Nat → ClassId) (dI : Nat → Nat → Nat) (sz : Nat) (h0 : Nat) (v_documents : Value) (v_fetched : Value) (v_compared : Value) (v_maker : Value) (v_writer : Value) (i_madeDocuments : Int32) (i_fetchedSteps : Int32) (hp : Nat) (p_i_going : Int32) (p_i_writesLeft : Int32) (hb1 : Nat) (hy : Nat) (cB : ClassId) (k : Nat) (f : Nat → Int32) (L : List Int32) (a1 : Int32) (a2 : Int32) (a3 : Int32) (a4 : Int32) (a5 : Int32) (htx : tx L k f) (hro : k + 20 ≤ 256) : Met l y_K_feed k_K_feed ({ frames := 2, cells := 0, slots := 0, locals := 43 } : Room) (va_Pc [.ref h0, .int a1, .int a2, .int a3, .int a4, .int a5] (pc_E (dC, dI) [(h0, .inr (0, [v_documents, .ref hb1, v_fetched, v_compared, v_maker, v_writer, .ref hp, .int i_madeDocuments, .int i_fetchedSteps])), (hp, .inr (4, [.int 0, .int p_i_going, .int p_i_writesLeft])), (hb1, .inr (1, [.ref hy, .int (nI k)])), (hy, .inl (cB, 256, .inl (f)))] [(cB, .byte)] sz)) (va_Qi (fun (r : Int32) (_ : Unit) => r = 1) (fun (_ : Unit) t => ∃ (f2 : Nat → Int32), (tx (L ++ (fb4 a1 ++ (fb4 a2 ++ (fb4 a3 ++ (fb4 a4 ++ fb4 a5))))) (k + 20) f2) ∧ at_E (dC, dI) (va_A [(h0, .inr (0, [v_documents, .ref hb1, v_fetched, v_compared, v_maker, v_writer, .ref hp, .int i_madeDocuments, .int i_fetchedSteps])), (hp, .inr (4, [.int 0, .int p_i_going, .int p_i_writesLeft])), (hb1, .inr (1, [.ref hy, .int (nI k)])), (hy, .inl (cB, 256, .inl (f)))] sz) [(h0, .inr (0, [v_documents, .ref hb1, v_fetched, v_compared, v_maker, v_writer, .ref hp, .int i_madeDocuments, .int i_fetchedSteps])), (hp, .inr (4, [.int 0, .int p_i_going, .int p_i_writesLeft])), (hb1, .inr (1, [.ref hy, .int (nI (k + 20))])), (hy, .inl (cB, 256, .inl (f2)))] [(cB, .byte)] t) (va_A [(h0, .inr (0, [v_documents, .ref hb1, v_fetched, v_compared, v_maker, v_writer, .ref hp, .int i_madeDocuments, .int i_fetchedSteps])), (hp, .inr (4, [.int 0, .int p_i_going, .int p_i_writesLeft])), (hb1, .inr (1, [.ref hy, .int (nI k)])), (hy, .inl (cB, 256, .inl (f)))] sz)) 0 0 (va_A [(h0, .inr (0, [v_documents, .ref hb1, v_fetched, v_compared, v_maker, v_writer, .ref hp, .int i_madeDocuments, .int i_fetchedSteps])), (hp, .inr (4, [.int 0, .int p_i_going, .int p_i_writesLeft])), (hb1, .inr (1, [.ref hy, .int (nI k)])), (hy, .inl (cB, 256, .inl (f)))] sz) := by
  refine Met.ofW (cc := prog_1_method_2_code) (maxL := 6) (ret := (some .boolean)) (by decide) rfl ?_
  intro p e s m args below meth c s₁ B hml hv
  obtain ⟨rfl, hsz, hP, hK, hD0, hN⟩ := hv
  have hx := B.exec
  have hb := B.bytes
  have hr := B.returns
  have hts := atoms_spec (ws := k_K_feed) B.pre
  have hw0 : ∀ w ∈ w0, w.before _ s = true := fun w h => hts w (List.mem_cons_of_mem _ h)
  have hown : s.vm.findClass R_K = some m.cls := findClass_of_methodNamed B.named
  have hlocks := B.notSynchronized
  subst hsz
  have hD := hD0.self (sz := s.heap.size)
  generalize hAe : va_A [(h0, .inr (0, [v_documents, .ref hb1, v_fetched, v_compared, v_maker, v_writer, .ref hp, .int i_madeDocuments, .int i_fetchedSteps])), (hp, .inr (4, [.int 0, .int p_i_going, .int p_i_writesLeft])), (hb1, .inr (1, [.ref hy, .int (nI k)])), (hy, .inl (cB, 256, .inl (f)))] s.heap.size = A at hD ⊢
  have hA : ∀ q : Nat, s.heap.size ≤ q → A q := fun q h => by rw [← hAe]; exact Or.inr h
  have hS : va_S A s.heap s.heap [] := va_S.rf
  have hP : va_P (dC, dI) vwCl [(h0, .inr (0, [v_documents, .ref hb1, v_fetched, v_compared, v_maker, v_writer, .ref hp, .int i_madeDocuments, .int i_fetchedSteps])), (hp, .inr (4, [.int 0, .int p_i_going, .int p_i_writesLeft])), (hb1, .inr (1, [.ref hy, .int (nI k)])), (hy, .inl (cB, 256, .inl (f)))] s.heap := hP
  have hl := lv_entry ([.ref h0, .int a1, .int a2, .int a3, .int a4, .int a5]) (n := 6) (Nat.le_of_ble_eq_true rfl)
  rw [lg_entry_eq]
  generalize (lg_sl ([.ref h0, .int a1, .int a2, .int a3, .int a4, .int a5]) ++ List.replicate (6 - (lg_sl ([.ref h0, .int a1, .int a2, .int a3, .int a4, .int a5])).length) Slot.unset).toArray = ls at hl ⊢
  have hl : lv_has ls 6 [(0, .ref h0), (1, .int a1), (2, .int a2), (3, .int a3), (4, .int a4), (5, .int a5)] := hl
  refine lv_aload_n hx hb d_K_feed_0 rfl (lv_at hl 0 rfl) ?_
  have hPc := hP.sub (ws' := [(h0, .inr (0, [v_documents, .ref hb1, v_fetched, v_compared, v_maker, v_writer, .ref hp, .int i_madeDocuments, .int i_fetchedSteps])), (hp, .inr (4, [.int 0, .int p_i_going, .int p_i_writesLeft]))]) [0, 1] rfl
  have hKc := hK.sub (tys' := []) [] rfl
  refine ps_v (va_runV (As := []) (rest := []) ⟨hx, hb, hml, hown, hw0⟩ (g_needPower l dC dI h0 v_documents (.ref hb1) v_fetched v_compared v_maker v_writer i_madeDocuments i_fetchedSteps hp p_i_going p_i_writesLeft) (cwV 0 hw0 (gd_Vm wm_404 wm_405 wm_406 wm_308 wm_407) rfl rfl rfl (by decide +kernel) ⟨by decide +kernel, by decide +kernel⟩) (prV_R hPc hKc hN (va_recv hKc hPc (ci := 0) (q0 := 0) rfl rfl)) rfl rfl hl.1 rfl (lv_room (Nat.le_of_ble_eq_true rfl)) d_K_feed_1 ⟨by decide +kernel, by decide +kernel⟩) ?_
  refine lv_aload_n hx hb d_K_feed_4 rfl (lv_at hl 0 rfl) ?_
  refine va_get (D := (dC, dI)) (ci := 0) (v := .ref hb1) (C := R_K) (T := F_K) (N := 9) hx hb hw0 in_K hown hK hP 0 rfl rfl 1 (by decide) (hw0 (.fieldLink R_K 18 "TextKeeper" "buffer" "LTextKeeper$Text;") wm_164) (fun _ h9 => h9) rfl d_K_feed_5 ?_
  refine lv_bipush (v := 20) hx hb d_K_feed_8 (by decide +kernel) ?_
  have hPc := hP.sub (ws' := [(hb1, .inr (1, [.ref hy, .int (nI k)]))]) [2] rfl
  have hKc := hK.sub (tys' := []) [] rfl
  refine ps_i (va_runV (As := [.int 20]) (rest := []) ⟨hx, hb, hml, hown, hw0⟩ (g_hasRoom l dC dI hb1 (.ref hy) k 20 (by first | assumption | decide | omega) (by first | assumption | decide | omega)) (cwV 1 hw0 (gd_Vm wm_408 wm_272 wm_273 wm_151 wm_274) rfl rfl rfl (by decide +kernel) ⟨by decide +kernel, by decide +kernel⟩) (prV_R hPc hKc hN (va_recv hKc hPc (ci := 1) (q0 := 0) rfl rfl)) rfl rfl hl.1 rfl (lv_room (Nat.le_of_ble_eq_true rfl)) d_K_feed_10 ⟨by decide +kernel, by decide +kernel⟩) (fun r_1 hr_1 => ?_)
  obtain rfl : r_1 = (bI (decide (20 + k ≤ 256))) := hr_1
  refine lv_if_ne (tgt := 18) hx hb d_K_feed_13 (by decide) (fun c_2 => ?_) (fun c_2 => absurd (show bI (decide (20 + k ≤ 256)) = 0 from c_2) (by rw [decide_eq_true (by omega)]; decide))
  refine lv_aload_n hx hb d_K_feed_18 rfl (lv_at hl 0 rfl) ?_
  refine va_get (D := (dC, dI)) (ci := 0) (v := .ref hb1) (C := R_K) (T := F_K) (N := 9) hx hb hw0 in_K hown hK hP 0 rfl rfl 1 (by decide) (hw0 (.fieldLink R_K 18 "TextKeeper" "buffer" "LTextKeeper$Text;") wm_164) (fun _ h9 => h9) rfl d_K_feed_19 ?_
  refine lv_iload_n hx hb d_K_feed_22 rfl (lv_at hl 1 rfl) ?_
  have hPc := hP.sub (ws' := [(hb1, .inr (1, [.ref hy, .int (nI k)])), (hy, .inl (cB, 256, .inl ((f))))]) [2, 3] rfl
  have hKc := hK.sub (tys' := [(cB, .byte)]) [0] rfl
  have hDc := hD.sub (ws' := [(hb1, .inr (1, [.ref hy, .int (nI k)])), (hy, .inl (cB, 256, .inl ((f))))]) [2, 3] (by decide) rfl
  have hFc := va_free (wc := [(hb1, .inr (1, [.ref hy, .int (nI k)])), (hy, .inl (cB, 256, .inl ((f))))]) hD hS hA [2, 3] rfl
  refine va_callv (va_runV (As := [.int a1]) (rest := []) ⟨hx, hb, hml, hown, hw0⟩ (g_addInt l dC dI s.heap.size hb1 hy cB k (f) L a1 (by first | assumption | decide | omega) (by first | assumption | decide | omega)) (cwV 1 hw0 (gd_Vm wm_409 wm_410 wm_411 wm_151 wm_412) rfl rfl rfl (by decide +kernel) ⟨by decide +kernel, by decide +kernel⟩) (prV_E hPc hKc hDc hN (va_recv hKc hPc (ci := 1) (q0 := 0) rfl rfl)) rfl rfl hl.1 rfl (lv_room (Nat.le_of_ble_eq_true rfl)) d_K_feed_23 ⟨by decide +kernel, by decide +kernel⟩) hS (fun q _ h => hFc q h) hFc (fun u t H1 locs ht hvm hw hB hz1 hk1 hS => ?_)
  obtain ⟨f2_3, hu_4, hP1, hK1, hD1⟩ := hB
  rw [ht] at hP1
  have hK1 := va_K.moved hvm.symm hK1
  try dsimp only at hw
  obtain ⟨hP, hD⟩ := va_join (wr := [(h0, .inr (0, [v_documents, .ref hb1, v_fetched, v_compared, v_maker, v_writer, .ref hp, .int i_madeDocuments, .int i_fetchedSteps])), (hp, .inr (4, [.int 0, .int p_i_going, .int p_i_writesLeft]))]) (w1 := [(hb1, .inr (1, [.ref hy, .int (nI (k + 4))])), (hy, .inl (cB, 256, .inl (f2_3)))]) hP hD [2, 3] [0, 1] rfl rfl (by decide) (by decide) hk1 hFc hP1 hD1
  generalize H1 = H at hP hS ⊢
  replace hP : va_P (dC, dI) vwCl [(h0, .inr (0, [v_documents, .ref hb1, v_fetched, v_compared, v_maker, v_writer, .ref hp, .int i_madeDocuments, .int i_fetchedSteps])), (hp, .inr (4, [.int 0, .int p_i_going, .int p_i_writesLeft])), (hb1, .inr (1, [.ref hy, .int (nI (k + 4))])), (hy, .inl (cB, 256, .inl (f2_3)))] H := hP
  replace hD : va_D A [(h0, .inr (0, [v_documents, .ref hb1, v_fetched, v_compared, v_maker, v_writer, .ref hp, .int i_madeDocuments, .int i_fetchedSteps])), (hp, .inr (4, [.int 0, .int p_i_going, .int p_i_writesLeft])), (hb1, .inr (1, [.ref hy, .int (nI (k + 4))])), (hy, .inl (cB, 256, .inl (f2_3)))] := hD
  replace hK : va_K (dC, dI) vwCl [(cB, .byte)] s := hK
  refine lv_aload_n hx hb d_K_feed_26 rfl (lv_at hl 0 rfl) ?_
  refine va_get (D := (dC, dI)) (ci := 0) (v := .ref hb1) (C := R_K) (T := F_K) (N := 9) hx hb hw0 in_K hown hK hP 0 rfl rfl 1 (by decide) (hw0 (.fieldLink R_K 18 "TextKeeper" "buffer" "LTextKeeper$Text;") wm_164) (fun _ h9 => h9) rfl d_K_feed_27 ?_
  refine lv_iload_n hx hb d_K_feed_30 rfl (lv_at hl 2 rfl) ?_
  have hPc := hP.sub (ws' := [(hb1, .inr (1, [.ref hy, .int (nI (k + 4))])), (hy, .inl (cB, 256, .inl ((f2_3))))]) [2, 3] rfl
  have hKc := hK.sub (tys' := [(cB, .byte)]) [0] rfl
  have hDc := hD.sub (ws' := [(hb1, .inr (1, [.ref hy, .int (nI (k + 4))])), (hy, .inl (cB, 256, .inl ((f2_3))))]) [2, 3] (by decide) rfl
  have hFc := va_free (wc := [(hb1, .inr (1, [.ref hy, .int (nI (k + 4))])), (hy, .inl (cB, 256, .inl ((f2_3))))]) hD hS hA [2, 3] rfl
  refine va_callv (va_runV (As := [.int a2]) (rest := []) ⟨hx, hb, hml, hown, hw0⟩ (g_addInt l dC dI H.size hb1 hy cB (k + 4) (f2_3) (L ++ fb4 a1) a2 (by first | assumption | decide | omega) (by first | assumption | decide | omega)) (cwV 1 hw0 (gd_Vm wm_409 wm_410 wm_411 wm_151 wm_412) rfl rfl rfl (by decide +kernel) ⟨by decide +kernel, by decide +kernel⟩) (prV_E hPc hKc hDc hN (va_recv hKc hPc (ci := 1) (q0 := 0) rfl rfl)) rfl rfl hl.1 rfl (lv_room (Nat.le_of_ble_eq_true rfl)) d_K_feed_31 ⟨by decide +kernel, by decide +kernel⟩) hS (fun q _ h => hFc q h) hFc (fun u t H1 locs ht hvm hw hB hz1 hk1 hS => ?_)
  obtain ⟨f2_5, hu_6, hP1, hK1, hD1⟩ := hB
  rw [ht] at hP1
  have hK1 := va_K.moved hvm.symm hK1
  try dsimp only at hw
  obtain ⟨hP, hD⟩ := va_join (wr := [(h0, .inr (0, [v_documents, .ref hb1, v_fetched, v_compared, v_maker, v_writer, .ref hp, .int i_madeDocuments, .int i_fetchedSteps])), (hp, .inr (4, [.int 0, .int p_i_going, .int p_i_writesLeft]))]) (w1 := [(hb1, .inr (1, [.ref hy, .int (nI ((k + 4) + 4))])), (hy, .inl (cB, 256, .inl (f2_5)))]) hP hD [2, 3] [0, 1] rfl rfl (by decide) (by decide) hk1 hFc hP1 hD1
  generalize H1 = H at hP hS ⊢
  replace hP : va_P (dC, dI) vwCl [(h0, .inr (0, [v_documents, .ref hb1, v_fetched, v_compared, v_maker, v_writer, .ref hp, .int i_madeDocuments, .int i_fetchedSteps])), (hp, .inr (4, [.int 0, .int p_i_going, .int p_i_writesLeft])), (hb1, .inr (1, [.ref hy, .int (nI ((k + 4) + 4))])), (hy, .inl (cB, 256, .inl (f2_5)))] H := hP
  replace hD : va_D A [(h0, .inr (0, [v_documents, .ref hb1, v_fetched, v_compared, v_maker, v_writer, .ref hp, .int i_madeDocuments, .int i_fetchedSteps])), (hp, .inr (4, [.int 0, .int p_i_going, .int p_i_writesLeft])), (hb1, .inr (1, [.ref hy, .int (nI ((k + 4) + 4))])), (hy, .inl (cB, 256, .inl (f2_5)))] := hD
  replace hK : va_K (dC, dI) vwCl [(cB, .byte)] s := hK
  refine lv_aload_n hx hb d_K_feed_34 rfl (lv_at hl 0 rfl) ?_
  refine va_get (D := (dC, dI)) (ci := 0) (v := .ref hb1) (C := R_K) (T := F_K) (N := 9) hx hb hw0 in_K hown hK hP 0 rfl rfl 1 (by decide) (hw0 (.fieldLink R_K 18 "TextKeeper" "buffer" "LTextKeeper$Text;") wm_164) (fun _ h9 => h9) rfl d_K_feed_35 ?_
  refine lv_iload_n hx hb d_K_feed_38 rfl (lv_at hl 3 rfl) ?_
  have hPc := hP.sub (ws' := [(hb1, .inr (1, [.ref hy, .int (nI ((k + 4) + 4))])), (hy, .inl (cB, 256, .inl ((f2_5))))]) [2, 3] rfl
  have hKc := hK.sub (tys' := [(cB, .byte)]) [0] rfl
  have hDc := hD.sub (ws' := [(hb1, .inr (1, [.ref hy, .int (nI ((k + 4) + 4))])), (hy, .inl (cB, 256, .inl ((f2_5))))]) [2, 3] (by decide) rfl
  have hFc := va_free (wc := [(hb1, .inr (1, [.ref hy, .int (nI ((k + 4) + 4))])), (hy, .inl (cB, 256, .inl ((f2_5))))]) hD hS hA [2, 3] rfl
  refine va_callv (va_runV (As := [.int a3]) (rest := []) ⟨hx, hb, hml, hown, hw0⟩ (g_addInt l dC dI H.size hb1 hy cB ((k + 4) + 4) (f2_5) (L ++ fb4 a1 ++ fb4 a2) a3 (by first | assumption | decide | omega) (by first | assumption | decide | omega)) (cwV 1 hw0 (gd_Vm wm_409 wm_410 wm_411 wm_151 wm_412) rfl rfl rfl (by decide +kernel) ⟨by decide +kernel, by decide +kernel⟩) (prV_E hPc hKc hDc hN (va_recv hKc hPc (ci := 1) (q0 := 0) rfl rfl)) rfl rfl hl.1 rfl (lv_room (Nat.le_of_ble_eq_true rfl)) d_K_feed_39 ⟨by decide +kernel, by decide +kernel⟩) hS (fun q _ h => hFc q h) hFc (fun u t H1 locs ht hvm hw hB hz1 hk1 hS => ?_)
  obtain ⟨f2_7, hu_8, hP1, hK1, hD1⟩ := hB
  rw [ht] at hP1
  have hK1 := va_K.moved hvm.symm hK1
  try dsimp only at hw
  obtain ⟨hP, hD⟩ := va_join (wr := [(h0, .inr (0, [v_documents, .ref hb1, v_fetched, v_compared, v_maker, v_writer, .ref hp, .int i_madeDocuments, .int i_fetchedSteps])), (hp, .inr (4, [.int 0, .int p_i_going, .int p_i_writesLeft]))]) (w1 := [(hb1, .inr (1, [.ref hy, .int (nI (((k + 4) + 4) + 4))])), (hy, .inl (cB, 256, .inl (f2_7)))]) hP hD [2, 3] [0, 1] rfl rfl (by decide) (by decide) hk1 hFc hP1 hD1
  generalize H1 = H at hP hS ⊢
  replace hP : va_P (dC, dI) vwCl [(h0, .inr (0, [v_documents, .ref hb1, v_fetched, v_compared, v_maker, v_writer, .ref hp, .int i_madeDocuments, .int i_fetchedSteps])), (hp, .inr (4, [.int 0, .int p_i_going, .int p_i_writesLeft])), (hb1, .inr (1, [.ref hy, .int (nI (((k + 4) + 4) + 4))])), (hy, .inl (cB, 256, .inl (f2_7)))] H := hP
  replace hD : va_D A [(h0, .inr (0, [v_documents, .ref hb1, v_fetched, v_compared, v_maker, v_writer, .ref hp, .int i_madeDocuments, .int i_fetchedSteps])), (hp, .inr (4, [.int 0, .int p_i_going, .int p_i_writesLeft])), (hb1, .inr (1, [.ref hy, .int (nI (((k + 4) + 4) + 4))])), (hy, .inl (cB, 256, .inl (f2_7)))] := hD
  replace hK : va_K (dC, dI) vwCl [(cB, .byte)] s := hK
  refine lv_aload_n hx hb d_K_feed_42 rfl (lv_at hl 0 rfl) ?_
  refine va_get (D := (dC, dI)) (ci := 0) (v := .ref hb1) (C := R_K) (T := F_K) (N := 9) hx hb hw0 in_K hown hK hP 0 rfl rfl 1 (by decide) (hw0 (.fieldLink R_K 18 "TextKeeper" "buffer" "LTextKeeper$Text;") wm_164) (fun _ h9 => h9) rfl d_K_feed_43 ?_
  refine lv_iload hx hb d_K_feed_46 (lv_at hl 4 rfl) ?_
  have hPc := hP.sub (ws' := [(hb1, .inr (1, [.ref hy, .int (nI (((k + 4) + 4) + 4))])), (hy, .inl (cB, 256, .inl ((f2_7))))]) [2, 3] rfl
  have hKc := hK.sub (tys' := [(cB, .byte)]) [0] rfl
  have hDc := hD.sub (ws' := [(hb1, .inr (1, [.ref hy, .int (nI (((k + 4) + 4) + 4))])), (hy, .inl (cB, 256, .inl ((f2_7))))]) [2, 3] (by decide) rfl
  have hFc := va_free (wc := [(hb1, .inr (1, [.ref hy, .int (nI (((k + 4) + 4) + 4))])), (hy, .inl (cB, 256, .inl ((f2_7))))]) hD hS hA [2, 3] rfl
  refine va_callv (va_runV (As := [.int a4]) (rest := []) ⟨hx, hb, hml, hown, hw0⟩ (g_addInt l dC dI H.size hb1 hy cB (((k + 4) + 4) + 4) (f2_7) (L ++ fb4 a1 ++ fb4 a2 ++ fb4 a3) a4 (by first | assumption | decide | omega) (by first | assumption | decide | omega)) (cwV 1 hw0 (gd_Vm wm_409 wm_410 wm_411 wm_151 wm_412) rfl rfl rfl (by decide +kernel) ⟨by decide +kernel, by decide +kernel⟩) (prV_E hPc hKc hDc hN (va_recv hKc hPc (ci := 1) (q0 := 0) rfl rfl)) rfl rfl hl.1 rfl (lv_room (Nat.le_of_ble_eq_true rfl)) d_K_feed_48 ⟨by decide +kernel, by decide +kernel⟩) hS (fun q _ h => hFc q h) hFc (fun u t H1 locs ht hvm hw hB hz1 hk1 hS => ?_)
  obtain ⟨f2_9, hu_10, hP1, hK1, hD1⟩ := hB
  rw [ht] at hP1
  have hK1 := va_K.moved hvm.symm hK1
  try dsimp only at hw
  obtain ⟨hP, hD⟩ := va_join (wr := [(h0, .inr (0, [v_documents, .ref hb1, v_fetched, v_compared, v_maker, v_writer, .ref hp, .int i_madeDocuments, .int i_fetchedSteps])), (hp, .inr (4, [.int 0, .int p_i_going, .int p_i_writesLeft]))]) (w1 := [(hb1, .inr (1, [.ref hy, .int (nI ((((k + 4) + 4) + 4) + 4))])), (hy, .inl (cB, 256, .inl (f2_9)))]) hP hD [2, 3] [0, 1] rfl rfl (by decide) (by decide) hk1 hFc hP1 hD1
  generalize H1 = H at hP hS ⊢
  replace hP : va_P (dC, dI) vwCl [(h0, .inr (0, [v_documents, .ref hb1, v_fetched, v_compared, v_maker, v_writer, .ref hp, .int i_madeDocuments, .int i_fetchedSteps])), (hp, .inr (4, [.int 0, .int p_i_going, .int p_i_writesLeft])), (hb1, .inr (1, [.ref hy, .int (nI ((((k + 4) + 4) + 4) + 4))])), (hy, .inl (cB, 256, .inl (f2_9)))] H := hP
  replace hD : va_D A [(h0, .inr (0, [v_documents, .ref hb1, v_fetched, v_compared, v_maker, v_writer, .ref hp, .int i_madeDocuments, .int i_fetchedSteps])), (hp, .inr (4, [.int 0, .int p_i_going, .int p_i_writesLeft])), (hb1, .inr (1, [.ref hy, .int (nI ((((k + 4) + 4) + 4) + 4))])), (hy, .inl (cB, 256, .inl (f2_9)))] := hD
  replace hK : va_K (dC, dI) vwCl [(cB, .byte)] s := hK
  refine lv_aload_n hx hb d_K_feed_51 rfl (lv_at hl 0 rfl) ?_
  refine va_get (D := (dC, dI)) (ci := 0) (v := .ref hb1) (C := R_K) (T := F_K) (N := 9) hx hb hw0 in_K hown hK hP 0 rfl rfl 1 (by decide) (hw0 (.fieldLink R_K 18 "TextKeeper" "buffer" "LTextKeeper$Text;") wm_164) (fun _ h9 => h9) rfl d_K_feed_52 ?_
  refine lv_iload hx hb d_K_feed_55 (lv_at hl 5 rfl) ?_
  have hPc := hP.sub (ws' := [(hb1, .inr (1, [.ref hy, .int (nI ((((k + 4) + 4) + 4) + 4))])), (hy, .inl (cB, 256, .inl ((f2_9))))]) [2, 3] rfl
  have hKc := hK.sub (tys' := [(cB, .byte)]) [0] rfl
  have hDc := hD.sub (ws' := [(hb1, .inr (1, [.ref hy, .int (nI ((((k + 4) + 4) + 4) + 4))])), (hy, .inl (cB, 256, .inl ((f2_9))))]) [2, 3] (by decide) rfl
  have hFc := va_free (wc := [(hb1, .inr (1, [.ref hy, .int (nI ((((k + 4) + 4) + 4) + 4))])), (hy, .inl (cB, 256, .inl ((f2_9))))]) hD hS hA [2, 3] rfl
  refine va_callv (va_runV (As := [.int a5]) (rest := []) ⟨hx, hb, hml, hown, hw0⟩ (g_addInt l dC dI H.size hb1 hy cB ((((k + 4) + 4) + 4) + 4) (f2_9) (L ++ fb4 a1 ++ fb4 a2 ++ fb4 a3 ++ fb4 a4) a5 (by first | assumption | decide | omega) (by first | assumption | decide | omega)) (cwV 1 hw0 (gd_Vm wm_409 wm_410 wm_411 wm_151 wm_412) rfl rfl rfl (by decide +kernel) ⟨by decide +kernel, by decide +kernel⟩) (prV_E hPc hKc hDc hN (va_recv hKc hPc (ci := 1) (q0 := 0) rfl rfl)) rfl rfl hl.1 rfl (lv_room (Nat.le_of_ble_eq_true rfl)) d_K_feed_57 ⟨by decide +kernel, by decide +kernel⟩) hS (fun q _ h => hFc q h) hFc (fun u t H1 locs ht hvm hw hB hz1 hk1 hS => ?_)
  obtain ⟨f2_11, hu_12, hP1, hK1, hD1⟩ := hB
  rw [ht] at hP1
  have hK1 := va_K.moved hvm.symm hK1
  try dsimp only at hw
  obtain ⟨hP, hD⟩ := va_join (wr := [(h0, .inr (0, [v_documents, .ref hb1, v_fetched, v_compared, v_maker, v_writer, .ref hp, .int i_madeDocuments, .int i_fetchedSteps])), (hp, .inr (4, [.int 0, .int p_i_going, .int p_i_writesLeft]))]) (w1 := [(hb1, .inr (1, [.ref hy, .int (nI (((((k + 4) + 4) + 4) + 4) + 4))])), (hy, .inl (cB, 256, .inl (f2_11)))]) hP hD [2, 3] [0, 1] rfl rfl (by decide) (by decide) hk1 hFc hP1 hD1
  generalize H1 = H at hP hS ⊢
  replace hP : va_P (dC, dI) vwCl [(h0, .inr (0, [v_documents, .ref hb1, v_fetched, v_compared, v_maker, v_writer, .ref hp, .int i_madeDocuments, .int i_fetchedSteps])), (hp, .inr (4, [.int 0, .int p_i_going, .int p_i_writesLeft])), (hb1, .inr (1, [.ref hy, .int (nI (((((k + 4) + 4) + 4) + 4) + 4))])), (hy, .inl (cB, 256, .inl (f2_11)))] H := hP
  replace hD : va_D A [(h0, .inr (0, [v_documents, .ref hb1, v_fetched, v_compared, v_maker, v_writer, .ref hp, .int i_madeDocuments, .int i_fetchedSteps])), (hp, .inr (4, [.int 0, .int p_i_going, .int p_i_writesLeft])), (hb1, .inr (1, [.ref hy, .int (nI (((((k + 4) + 4) + 4) + 4) + 4))])), (hy, .inl (cB, 256, .inl (f2_11)))] := hD
  replace hK : va_K (dC, dI) vwCl [(cB, .byte)] s := hK
  refine lv_iconst (v := 1) hx hb d_K_feed_60 (by decide) ?_
  have hP9 := hP.sub (ws' := [(h0, .inr (0, [v_documents, .ref hb1, v_fetched, v_compared, v_maker, v_writer, .ref hp, .int i_madeDocuments, .int i_fetchedSteps])), (hp, .inr (4, [.int 0, .int p_i_going, .int p_i_writesLeft])), (hb1, .inr (1, [.ref hy, .int (nI (k + 20))])), (hy, .inl (cB, 256, .inl (f2_11)))]) [0, 1, 2, 3] rfl
  have hD9 := hD.sub (ws' := [(h0, .inr (0, [v_documents, .ref hb1, v_fetched, v_compared, v_maker, v_writer, .ref hp, .int i_madeDocuments, .int i_fetchedSteps])), (hp, .inr (4, [.int 0, .int p_i_going, .int p_i_writesLeft])), (hb1, .inr (1, [.ref hy, .int (nI (k + 20))])), (hy, .inl (cB, 256, .inl (f2_11)))]) [0, 1, 2, 3] (by decide) rfl
  have hK9 := hK.sub (tys' := [(cB, .byte)]) [0] rfl
  exact W.zret (v := 1) (ty := .boolean) hx hb hr rfl (fun t ht hW => ⟨⟨1, (), rfl, rfl, f2_11, (by have h9 := hu_12; simp only [List.append_assoc] at h9; exact h9), by rw [ht]; exact hP9, va_K.moved hW.alike hK9, hD9⟩, hS.F ht⟩) hS.2.2 d_K_feed_61
set_option maxHeartbeats 4000000 in
set_option maxRecDepth 100000 in
theorem g_end_T (l : Launch) (dC : Nat → ClassId) (dI : Nat → Nat → Nat) (sz : Nat) (h0 : Nat) (v_documents : Value) (v_fetched : Value) (v_compared : Value) (v_maker : Value) (v_writer : Value) (i_madeDocuments : Int32) (i_fetchedSteps : Int32) (hp : Nat) (p_i_going : Int32) (p_i_writesLeft : Int32) (hb1 : Nat) (hy : Nat) (cB : ClassId) (k : Nat) (f : Nat → Int32) (L : List Int32) (n : Nat) (htx : tx L k f) (hk : k ≤ 256) (hn : n ≤ k) : Met l y_K_end k_K_end ({ frames := 1, cells := 0, slots := 0, locals := 21 } : Room) (va_Pc [.ref h0, .int (nI n)] (pc_E (dC, dI) [(h0, .inr (0, [v_documents, .ref hb1, v_fetched, v_compared, v_maker, v_writer, .ref hp, .int i_madeDocuments, .int i_fetchedSteps])), (hp, .inr (4, [.int 0, .int p_i_going, .int p_i_writesLeft])), (hb1, .inr (1, [.ref hy, .int (nI k)])), (hy, .inl (cB, 256, .inl (f)))] [(cB, .byte)] sz)) (va_Qi (fun (r : Int32) (_ : Unit) => r = 1) (fun (_ : Unit) t => (tx (L.take n) n f) ∧ at_E (dC, dI) (va_A [(h0, .inr (0, [v_documents, .ref hb1, v_fetched, v_compared, v_maker, v_writer, .ref hp, .int i_madeDocuments, .int i_fetchedSteps])), (hp, .inr (4, [.int 0, .int p_i_going, .int p_i_writesLeft])), (hb1, .inr (1, [.ref hy, .int (nI k)])), (hy, .inl (cB, 256, .inl (f)))] sz) [(h0, .inr (0, [v_documents, .ref hb1, v_fetched, v_compared, v_maker, v_writer, .ref hp, .int i_madeDocuments, .int i_fetchedSteps])), (hp, .inr (4, [.int 0, .int p_i_going, .int p_i_writesLeft])), (hb1, .inr (1, [.ref hy, .int (nI n)])), (hy, .inl (cB, 256, .inl (f)))] [(cB, .byte)] t) (va_A [(h0, .inr (0, [v_documents, .ref hb1, v_fetched, v_compared, v_maker, v_writer, .ref hp, .int i_madeDocuments, .int i_fetchedSteps])), (hp, .inr (4, [.int 0, .int p_i_going, .int p_i_writesLeft])), (hb1, .inr (1, [.ref hy, .int (nI k)])), (hy, .inl (cB, 256, .inl (f)))] sz)) 0 0 (va_A [(h0, .inr (0, [v_documents, .ref hb1, v_fetched, v_compared, v_maker, v_writer, .ref hp, .int i_madeDocuments, .int i_fetchedSteps])), (hp, .inr (4, [.int 0, .int p_i_going, .int p_i_writesLeft])), (hb1, .inr (1, [.ref hy, .int (nI k)])), (hy, .inl (cB, 256, .inl (f)))] sz) := by
  refine Met.ofW (cc := prog_1_method_3_code) (maxL := 2) (ret := (some .boolean)) (by decide) rfl ?_
  intro p e s m args below meth c s₁ B hml hv
  obtain ⟨rfl, hsz, hP, hK, hD0, hN⟩ := hv
  have hx := B.exec
  have hb := B.bytes
  have hr := B.returns
  have hts := atoms_spec (ws := k_K_end) B.pre
  have hw0 : ∀ w ∈ w0, w.before _ s = true := fun w h => hts w (List.mem_cons_of_mem _ h)
  have hown : s.vm.findClass R_K = some m.cls := findClass_of_methodNamed B.named
  have hlocks := B.notSynchronized
  subst hsz
  have hD := hD0.self (sz := s.heap.size)
  generalize hAe : va_A [(h0, .inr (0, [v_documents, .ref hb1, v_fetched, v_compared, v_maker, v_writer, .ref hp, .int i_madeDocuments, .int i_fetchedSteps])), (hp, .inr (4, [.int 0, .int p_i_going, .int p_i_writesLeft])), (hb1, .inr (1, [.ref hy, .int (nI k)])), (hy, .inl (cB, 256, .inl (f)))] s.heap.size = A at hD ⊢
  have hA : ∀ q : Nat, s.heap.size ≤ q → A q := fun q h => by rw [← hAe]; exact Or.inr h
  have hS : va_S A s.heap s.heap [] := va_S.rf
  have hP : va_P (dC, dI) vwCl [(h0, .inr (0, [v_documents, .ref hb1, v_fetched, v_compared, v_maker, v_writer, .ref hp, .int i_madeDocuments, .int i_fetchedSteps])), (hp, .inr (4, [.int 0, .int p_i_going, .int p_i_writesLeft])), (hb1, .inr (1, [.ref hy, .int (nI k)])), (hy, .inl (cB, 256, .inl (f)))] s.heap := hP
  have hl := lv_entry ([.ref h0, .int (nI n)]) (n := 2) (Nat.le_of_ble_eq_true rfl)
  rw [lg_entry_eq]
  generalize (lg_sl ([.ref h0, .int (nI n)]) ++ List.replicate (2 - (lg_sl ([.ref h0, .int (nI n)])).length) Slot.unset).toArray = ls at hl ⊢
  have hl : lv_has ls 2 [(0, .ref h0), (1, .int (nI n))] := hl
  refine lv_aload_n hx hb d_K_end_0 rfl (lv_at hl 0 rfl) ?_
  have hPc := hP.sub (ws' := [(h0, .inr (0, [v_documents, .ref hb1, v_fetched, v_compared, v_maker, v_writer, .ref hp, .int i_madeDocuments, .int i_fetchedSteps])), (hp, .inr (4, [.int 0, .int p_i_going, .int p_i_writesLeft]))]) [0, 1] rfl
  have hKc := hK.sub (tys' := []) [] rfl
  refine ps_v (va_runV (As := []) (rest := []) ⟨hx, hb, hml, hown, hw0⟩ (g_needPower l dC dI h0 v_documents (.ref hb1) v_fetched v_compared v_maker v_writer i_madeDocuments i_fetchedSteps hp p_i_going p_i_writesLeft) (cwV 0 hw0 (gd_Vm wm_404 wm_405 wm_406 wm_308 wm_407) rfl rfl rfl (by decide +kernel) ⟨by decide +kernel, by decide +kernel⟩) (prV_R hPc hKc hN (va_recv hKc hPc (ci := 0) (q0 := 0) rfl rfl)) rfl rfl hl.1 rfl (lv_room (Nat.le_of_ble_eq_true rfl)) d_K_end_1 ⟨by decide +kernel, by decide +kernel⟩) ?_
  refine lv_aload_n hx hb d_K_end_4 rfl (lv_at hl 0 rfl) ?_
  refine va_get (D := (dC, dI)) (ci := 0) (v := .ref hb1) (C := R_K) (T := F_K) (N := 9) hx hb hw0 in_K hown hK hP 0 rfl rfl 1 (by decide) (hw0 (.fieldLink R_K 18 "TextKeeper" "buffer" "LTextKeeper$Text;") wm_164) (fun _ h9 => h9) rfl d_K_end_5 ?_
  refine lv_iload_n hx hb d_K_end_8 rfl (lv_at hl 1 rfl) ?_
  have hPc := hP.sub (ws' := [(hb1, .inr (1, [.ref hy, .int (nI k)])), (hy, .inl (cB, 256, .inl ((f))))]) [2, 3] rfl
  have hKc := hK.sub (tys' := [(cB, .byte)]) [0] rfl
  have hDc := hD.sub (ws' := [(hb1, .inr (1, [.ref hy, .int (nI k)])), (hy, .inl (cB, 256, .inl ((f))))]) [2, 3] (by decide) rfl
  have hFc := va_free (wc := [(hb1, .inr (1, [.ref hy, .int (nI k)])), (hy, .inl (cB, 256, .inl ((f))))]) hD hS hA [2, 3] rfl
  refine va_calli (va_runV (As := [.int (nI n)]) (rest := []) ⟨hx, hb, hml, hown, hw0⟩ (g_shorten_T l dC dI s.heap.size hb1 hy cB k (f) L n (by first | assumption | decide | omega) (by first | assumption | decide | omega) (by first | assumption | decide | omega)) (cwV 1 hw0 (gd_Vm wm_413 wm_318 wm_319 wm_151 wm_320) rfl rfl rfl (by decide +kernel) ⟨by decide +kernel, by decide +kernel⟩) (prV_E hPc hKc hDc hN (va_recv hKc hPc (ci := 1) (q0 := 0) rfl rfl)) rfl rfl hl.1 rfl (lv_room (Nat.le_of_ble_eq_true rfl)) d_K_end_9 ⟨by decide +kernel, by decide +kernel⟩) hS (fun q _ h => hFc q h) hFc (fun r_1 u t H1 locs ht hvm hw hB hz1 hk1 hS => ?_)
  obtain ⟨hu_2, hP1, hK1, hD1⟩ := hB
  rw [ht] at hP1
  have hK1 := va_K.moved hvm.symm hK1
  try dsimp only at hw
  obtain ⟨hP, hD⟩ := va_join (wr := [(h0, .inr (0, [v_documents, .ref hb1, v_fetched, v_compared, v_maker, v_writer, .ref hp, .int i_madeDocuments, .int i_fetchedSteps])), (hp, .inr (4, [.int 0, .int p_i_going, .int p_i_writesLeft]))]) (w1 := [(hb1, .inr (1, [.ref hy, .int (nI n)])), (hy, .inl (cB, 256, .inl ((f))))]) hP hD [2, 3] [0, 1] rfl rfl (by decide) (by decide) hk1 hFc hP1 hD1
  generalize H1 = H at hP hS ⊢
  replace hP : va_P (dC, dI) vwCl [(h0, .inr (0, [v_documents, .ref hb1, v_fetched, v_compared, v_maker, v_writer, .ref hp, .int i_madeDocuments, .int i_fetchedSteps])), (hp, .inr (4, [.int 0, .int p_i_going, .int p_i_writesLeft])), (hb1, .inr (1, [.ref hy, .int (nI n)])), (hy, .inl (cB, 256, .inl ((f))))] H := hP
  replace hD : va_D A [(h0, .inr (0, [v_documents, .ref hb1, v_fetched, v_compared, v_maker, v_writer, .ref hp, .int i_madeDocuments, .int i_fetchedSteps])), (hp, .inr (4, [.int 0, .int p_i_going, .int p_i_writesLeft])), (hb1, .inr (1, [.ref hy, .int (nI n)])), (hy, .inl (cB, 256, .inl ((f))))] := hD
  replace hK : va_K (dC, dI) vwCl [(cB, .byte)] s := hK
  obtain rfl : r_1 = 1 := hw
  have hP9 := hP.sub (ws' := [(h0, .inr (0, [v_documents, .ref hb1, v_fetched, v_compared, v_maker, v_writer, .ref hp, .int i_madeDocuments, .int i_fetchedSteps])), (hp, .inr (4, [.int 0, .int p_i_going, .int p_i_writesLeft])), (hb1, .inr (1, [.ref hy, .int (nI n)])), (hy, .inl (cB, 256, .inl (f)))]) [0, 1, 2, 3] rfl
  have hD9 := hD.sub (ws' := [(h0, .inr (0, [v_documents, .ref hb1, v_fetched, v_compared, v_maker, v_writer, .ref hp, .int i_madeDocuments, .int i_fetchedSteps])), (hp, .inr (4, [.int 0, .int p_i_going, .int p_i_writesLeft])), (hb1, .inr (1, [.ref hy, .int (nI n)])), (hy, .inl (cB, 256, .inl (f)))]) [0, 1, 2, 3] (by decide) rfl
  have hK9 := hK.sub (tys' := [(cB, .byte)]) [0] rfl
  exact W.zret (v := 1) (ty := .boolean) hx hb hr rfl (fun t ht hW => ⟨⟨1, (), rfl, rfl, hu_2, by rw [ht]; exact hP9, va_K.moved hW.alike hK9, hD9⟩, hS.F ht⟩) hS.2.2 d_K_end_12
set_option maxHeartbeats 4000000 in
set_option maxRecDepth 100000 in
theorem g_end_F (l : Launch) (dC : Nat → ClassId) (dI : Nat → Nat → Nat) (h0 : Nat) (v_documents : Value) (v_fetched : Value) (v_compared : Value) (v_maker : Value) (v_writer : Value) (i_madeDocuments : Int32) (i_fetchedSteps : Int32) (hp : Nat) (p_i_going : Int32) (p_i_writesLeft : Int32) (hb1 : Nat) (hy : Nat) (cB : ClassId) (k : Nat) (f : Nat → Int32) (a1 : Int32) (hn : a1 < 0 ∨ nI k < a1) : Met l y_K_end k_K_end ({ frames := 1, cells := 0, slots := 0, locals := 21 } : Room) (va_Pc [.ref h0, .int a1] (pc_R (dC, dI) [(h0, .inr (0, [v_documents, .ref hb1, v_fetched, v_compared, v_maker, v_writer, .ref hp, .int i_madeDocuments, .int i_fetchedSteps])), (hp, .inr (4, [.int 0, .int p_i_going, .int p_i_writesLeft])), (hb1, .inr (1, [.ref hy, .int (nI k)])), (hy, .inl (cB, 256, .inl (f)))] [(cB, .byte)])) (vp_Si (fun r => r = 0)) 0 0 (fun _ => False) := by
  refine Met.ofW (cc := prog_1_method_3_code) (maxL := 2) (ret := (some .boolean)) (by decide) rfl ?_
  intro p e s m args below meth c s₁ B hml hv
  obtain ⟨rfl, hP, hK, hN⟩ := hv
  have hx := B.exec
  have hb := B.bytes
  have hr := B.returns
  have hts := atoms_spec (ws := k_K_end) B.pre
  have hw0 : ∀ w ∈ w0, w.before _ s = true := fun w h => hts w (List.mem_cons_of_mem _ h)
  have hown : s.vm.findClass R_K = some m.cls := findClass_of_methodNamed B.named
  have hlocks := B.notSynchronized
  have hP : va_P (dC, dI) vwCl [(h0, .inr (0, [v_documents, .ref hb1, v_fetched, v_compared, v_maker, v_writer, .ref hp, .int i_madeDocuments, .int i_fetchedSteps])), (hp, .inr (4, [.int 0, .int p_i_going, .int p_i_writesLeft])), (hb1, .inr (1, [.ref hy, .int (nI k)])), (hy, .inl (cB, 256, .inl (f)))] s.heap := hP
  have hl := lv_entry ([.ref h0, .int a1]) (n := 2) (Nat.le_of_ble_eq_true rfl)
  rw [lg_entry_eq]
  generalize (lg_sl ([.ref h0, .int a1]) ++ List.replicate (2 - (lg_sl ([.ref h0, .int a1])).length) Slot.unset).toArray = ls at hl ⊢
  have hl : lv_has ls 2 [(0, .ref h0), (1, .int a1)] := hl
  refine lv_aload_n hx hb d_K_end_0 rfl (lv_at hl 0 rfl) ?_
  have hPc := hP.sub (ws' := [(h0, .inr (0, [v_documents, .ref hb1, v_fetched, v_compared, v_maker, v_writer, .ref hp, .int i_madeDocuments, .int i_fetchedSteps])), (hp, .inr (4, [.int 0, .int p_i_going, .int p_i_writesLeft]))]) [0, 1] rfl
  have hKc := hK.sub (tys' := []) [] rfl
  refine ps_v (va_runV (As := []) (rest := []) ⟨hx, hb, hml, hown, hw0⟩ (g_needPower l dC dI h0 v_documents (.ref hb1) v_fetched v_compared v_maker v_writer i_madeDocuments i_fetchedSteps hp p_i_going p_i_writesLeft) (cwV 0 hw0 (gd_Vm wm_404 wm_405 wm_406 wm_308 wm_407) rfl rfl rfl (by decide +kernel) ⟨by decide +kernel, by decide +kernel⟩) (prV_R hPc hKc hN (va_recv hKc hPc (ci := 0) (q0 := 0) rfl rfl)) rfl rfl hl.1 rfl (lv_room (Nat.le_of_ble_eq_true rfl)) d_K_end_1 ⟨by decide +kernel, by decide +kernel⟩) ?_
  refine lv_aload_n hx hb d_K_end_4 rfl (lv_at hl 0 rfl) ?_
  refine va_get (D := (dC, dI)) (ci := 0) (v := .ref hb1) (C := R_K) (T := F_K) (N := 9) hx hb hw0 in_K hown hK hP 0 rfl rfl 1 (by decide) (hw0 (.fieldLink R_K 18 "TextKeeper" "buffer" "LTextKeeper$Text;") wm_164) (fun _ h9 => h9) rfl d_K_end_5 ?_
  refine lv_iload_n hx hb d_K_end_8 rfl (lv_at hl 1 rfl) ?_
  have hPc := hP.sub (ws' := [(hb1, .inr (1, [.ref hy, .int (nI k)])), (hy, .inl (cB, 256, .inl ((f))))]) [2, 3] rfl
  have hKc := hK.sub (tys' := [(cB, .byte)]) [0] rfl
  refine ps_i (va_runV (As := [.int a1]) (rest := []) ⟨hx, hb, hml, hown, hw0⟩ (g_shorten_F l dC dI hb1 hy cB k (f) a1 (by first | assumption | decide | omega)) (cwV 1 hw0 (gd_Vm wm_413 wm_318 wm_319 wm_151 wm_320) rfl rfl rfl (by decide +kernel) ⟨by decide +kernel, by decide +kernel⟩) (prV_R hPc hKc hN (va_recv hKc hPc (ci := 1) (q0 := 0) rfl rfl)) rfl rfl hl.1 rfl (lv_room (Nat.le_of_ble_eq_true rfl)) d_K_end_9 ⟨by decide +kernel, by decide +kernel⟩) (fun r_1 hr_1 => ?_)
  obtain rfl : r_1 = 0 := hr_1
  exact W.zret (v := 0) (ty := .boolean) hx hb hr rfl (fun t ht hW => ⟨0, rfl, rfl, ht⟩) (fun q h => by cases h) d_K_end_12
set_option maxHeartbeats 4000000 in
set_option maxRecDepth 100000 in
theorem g_out (l : Launch) (dC : Nat → ClassId) (dI : Nat → Nat → Nat) (h0 : Nat) (v_documents : Value) (v_buffer : Value) (v_compared : Value) (v_maker : Value) (v_writer : Value) (i_madeDocuments : Int32) (i_fetchedSteps : Int32) (hp : Nat) (p_i_going : Int32) (p_i_writesLeft : Int32) (hb1 : Nat) (hy : Nat) (cB : ClassId) (k : Nat) (f : Nat → Int32) (L : List Int32) (a1 : Int32) (htx : tx L k f) (hk : k ≤ 256) : Met l y_K_out k_K_out ({ frames := 1, cells := 0, slots := 0, locals := 21 } : Room) (va_Pc [.ref h0, .int a1] (pc_R (dC, dI) [(h0, .inr (0, [v_documents, v_buffer, .ref hb1, v_compared, v_maker, v_writer, .ref hp, .int i_madeDocuments, .int i_fetchedSteps])), (hp, .inr (4, [.int 0, .int p_i_going, .int p_i_writesLeft])), (hb1, .inr (1, [.ref hy, .int (nI k)])), (hy, .inl (cB, 256, .inl (f)))] [(cB, .byte)])) (vp_Si (fun r => r = bAt L a1)) 0 0 (fun _ => False) := by
  refine Met.ofW (cc := prog_1_method_7_code) (maxL := 2) (ret := (some .int)) (by decide) rfl ?_
  intro p e s m args below meth c s₁ B hml hv
  obtain ⟨rfl, hP, hK, hN⟩ := hv
  have hx := B.exec
  have hb := B.bytes
  have hr := B.returns
  have hts := atoms_spec (ws := k_K_out) B.pre
  have hw0 : ∀ w ∈ w0, w.before _ s = true := fun w h => hts w (List.mem_cons_of_mem _ h)
  have hown : s.vm.findClass R_K = some m.cls := findClass_of_methodNamed B.named
  have hlocks := B.notSynchronized
  have hP : va_P (dC, dI) vwCl [(h0, .inr (0, [v_documents, v_buffer, .ref hb1, v_compared, v_maker, v_writer, .ref hp, .int i_madeDocuments, .int i_fetchedSteps])), (hp, .inr (4, [.int 0, .int p_i_going, .int p_i_writesLeft])), (hb1, .inr (1, [.ref hy, .int (nI k)])), (hy, .inl (cB, 256, .inl (f)))] s.heap := hP
  have hl := lv_entry ([.ref h0, .int a1]) (n := 2) (Nat.le_of_ble_eq_true rfl)
  rw [lg_entry_eq]
  generalize (lg_sl ([.ref h0, .int a1]) ++ List.replicate (2 - (lg_sl ([.ref h0, .int a1])).length) Slot.unset).toArray = ls at hl ⊢
  have hl : lv_has ls 2 [(0, .ref h0), (1, .int a1)] := hl
  refine lv_aload_n hx hb d_K_out_0 rfl (lv_at hl 0 rfl) ?_
  have hPc := hP.sub (ws' := [(h0, .inr (0, [v_documents, v_buffer, .ref hb1, v_compared, v_maker, v_writer, .ref hp, .int i_madeDocuments, .int i_fetchedSteps])), (hp, .inr (4, [.int 0, .int p_i_going, .int p_i_writesLeft]))]) [0, 1] rfl
  have hKc := hK.sub (tys' := []) [] rfl
  refine ps_v (va_runV (As := []) (rest := []) ⟨hx, hb, hml, hown, hw0⟩ (g_needPower l dC dI h0 v_documents v_buffer (.ref hb1) v_compared v_maker v_writer i_madeDocuments i_fetchedSteps hp p_i_going p_i_writesLeft) (cwV 0 hw0 (gd_Vm wm_404 wm_405 wm_406 wm_308 wm_407) rfl rfl rfl (by decide +kernel) ⟨by decide +kernel, by decide +kernel⟩) (prV_R hPc hKc hN (va_recv hKc hPc (ci := 0) (q0 := 0) rfl rfl)) rfl rfl hl.1 rfl (lv_room (Nat.le_of_ble_eq_true rfl)) d_K_out_1 ⟨by decide +kernel, by decide +kernel⟩) ?_
  refine lv_aload_n hx hb d_K_out_4 rfl (lv_at hl 0 rfl) ?_
  refine va_get (D := (dC, dI)) (ci := 0) (v := .ref hb1) (C := R_K) (T := F_K) (N := 9) hx hb hw0 in_K hown hK hP 0 rfl rfl 2 (by decide) (hw0 (.fieldLink R_K 22 "TextKeeper" "fetched" "LTextKeeper$Text;") wm_165) (fun _ h9 => h9) rfl d_K_out_5 ?_
  refine lv_iload_n hx hb d_K_out_8 rfl (lv_at hl 1 rfl) ?_
  have hPc := hP.sub (ws' := [(hb1, .inr (1, [.ref hy, .int (nI k)])), (hy, .inl (cB, 256, .inl ((f))))]) [2, 3] rfl
  have hKc := hK.sub (tys' := [(cB, .byte)]) [0] rfl
  refine ps_i (va_runV (As := [.int a1]) (rest := []) ⟨hx, hb, hml, hown, hw0⟩ (g_byteAt l dC dI hb1 hy cB k (f) L a1 (by first | assumption | decide | omega) (by first | assumption | decide | omega)) (cwV 1 hw0 (gd_Vm wm_414 wm_210 wm_211 wm_151 wm_212) rfl rfl rfl (by decide +kernel) ⟨by decide +kernel, by decide +kernel⟩) (prV_R hPc hKc hN (va_recv hKc hPc (ci := 1) (q0 := 0) rfl rfl)) rfl rfl hl.1 rfl (lv_room (Nat.le_of_ble_eq_true rfl)) d_K_out_9 ⟨by decide +kernel, by decide +kernel⟩) (fun r_1 hr_1 => ?_)
  obtain rfl : r_1 = (bAt L a1) := hr_1
  exact W.iret (v := (bAt L a1)) hx hb hr (fun t ht hW => ⟨(bAt L a1), rfl, rfl, ht⟩) (fun q h => by cases h) d_K_out_12
set_option maxHeartbeats 4000000 in
set_option maxRecDepth 100000 in
theorem g_steps (l : Launch) (dC : Nat → ClassId) (dI : Nat → Nat → Nat) (h0 : Nat) (v_documents : Value) (v_buffer : Value) (v_fetched : Value) (v_compared : Value) (v_maker : Value) (v_writer : Value) (i_madeDocuments : Int32) (fs : Int32) (hp : Nat) (p_i_going : Int32) (p_i_writesLeft : Int32)  : Met l y_K_steps k_K_steps ({ frames := 1, cells := 0, slots := 0, locals := 20 } : Room) (va_Pc [.ref h0] (pc_R (dC, dI) [(h0, .inr (0, [v_documents, v_buffer, v_fetched, v_compared, v_maker, v_writer, .ref hp, .int i_madeDocuments, .int fs])), (hp, .inr (4, [.int 0, .int p_i_going, .int p_i_writesLeft]))] [])) (vp_Si (fun r => r = fs)) 0 0 (fun _ => False) := by
  refine Met.ofW (cc := prog_1_method_8_code) (maxL := 1) (ret := (some .int)) (by decide) rfl ?_
  intro p e s m args below meth c s₁ B hml hv
  obtain ⟨rfl, hP, hK, hN⟩ := hv
  have hx := B.exec
  have hb := B.bytes
  have hr := B.returns
  have hts := atoms_spec (ws := k_K_steps) B.pre
  have hw0 : ∀ w ∈ w0, w.before _ s = true := fun w h => hts w (List.mem_cons_of_mem _ h)
  have hown : s.vm.findClass R_K = some m.cls := findClass_of_methodNamed B.named
  have hlocks := B.notSynchronized
  have hP : va_P (dC, dI) vwCl [(h0, .inr (0, [v_documents, v_buffer, v_fetched, v_compared, v_maker, v_writer, .ref hp, .int i_madeDocuments, .int fs])), (hp, .inr (4, [.int 0, .int p_i_going, .int p_i_writesLeft]))] s.heap := hP
  have hl := lv_entry ([.ref h0]) (n := 1) (Nat.le_of_ble_eq_true rfl)
  rw [lg_entry_eq]
  generalize (lg_sl ([.ref h0]) ++ List.replicate (1 - (lg_sl ([.ref h0])).length) Slot.unset).toArray = ls at hl ⊢
  have hl : lv_has ls 1 [(0, .ref h0)] := hl
  refine lv_aload_n hx hb d_K_steps_0 rfl (lv_at hl 0 rfl) ?_
  have hPc := hP.sub (ws' := [(h0, .inr (0, [v_documents, v_buffer, v_fetched, v_compared, v_maker, v_writer, .ref hp, .int i_madeDocuments, .int fs])), (hp, .inr (4, [.int 0, .int p_i_going, .int p_i_writesLeft]))]) [0, 1] rfl
  have hKc := hK.sub (tys' := []) [] rfl
  refine ps_v (va_runV (As := []) (rest := []) ⟨hx, hb, hml, hown, hw0⟩ (g_needPower l dC dI h0 v_documents v_buffer v_fetched v_compared v_maker v_writer i_madeDocuments fs hp p_i_going p_i_writesLeft) (cwV 0 hw0 (gd_Vm wm_404 wm_405 wm_406 wm_308 wm_407) rfl rfl rfl (by decide +kernel) ⟨by decide +kernel, by decide +kernel⟩) (prV_R hPc hKc hN (va_recv hKc hPc (ci := 0) (q0 := 0) rfl rfl)) rfl rfl hl.1 rfl (lv_room (Nat.le_of_ble_eq_true rfl)) d_K_steps_1 ⟨by decide +kernel, by decide +kernel⟩) ?_
  refine lv_aload_n hx hb d_K_steps_4 rfl (lv_at hl 0 rfl) ?_
  refine va_get (D := (dC, dI)) (ci := 0) (v := .int fs) (C := R_K) (T := F_K) (N := 9) hx hb hw0 in_K hown hK hP 0 rfl rfl 8 (by decide) (hw0 (.fieldLink R_K 53 "TextKeeper" "fetchedSteps" "I") wm_189) (fun _ h9 => h9) rfl d_K_steps_5 ?_
  exact W.iret (v := fs) hx hb hr (fun t ht hW => ⟨fs, rfl, rfl, ht⟩) (fun q h => by cases h) d_K_steps_8
set_option maxHeartbeats 4000000 in
set_option maxRecDepth 100000 in
theorem g_cut_T (l : Launch) (dC : Nat → ClassId) (dI : Nat → Nat → Nat) (sz : Nat) (h0 : Nat) (v_documents : Value) (v_buffer : Value) (v_fetched : Value) (v_compared : Value) (v_maker : Value) (v_writer : Value) (i_madeDocuments : Int32) (i_fetchedSteps : Int32) (hp : Nat) (p_i_going : Int32) (p_i_writesLeft : Int32) (a1 : Int32) (h1 : 0 ≤ a1) : Met l y_K_cutAfter k_K_cutAfter ({ frames := 1, cells := 0, slots := 0, locals := 21 } : Room) (va_Pc [.ref h0, .int a1] (pc_E (dC, dI) [(h0, .inr (0, [v_documents, v_buffer, v_fetched, v_compared, v_maker, v_writer, .ref hp, .int i_madeDocuments, .int i_fetchedSteps])), (hp, .inr (4, [.int 0, .int p_i_going, .int p_i_writesLeft]))] [] sz)) (va_Qi (fun (r : Int32) (_ : Unit) => r = 1) (fun (_ : Unit) t => at_E (dC, dI) (va_A [(h0, .inr (0, [v_documents, v_buffer, v_fetched, v_compared, v_maker, v_writer, .ref hp, .int i_madeDocuments, .int i_fetchedSteps])), (hp, .inr (4, [.int 0, .int p_i_going, .int p_i_writesLeft]))] sz) [(h0, .inr (0, [v_documents, v_buffer, v_fetched, v_compared, v_maker, v_writer, .ref hp, .int i_madeDocuments, .int i_fetchedSteps])), (hp, .inr (4, [.int 0, .int 1, .int a1]))] [] t) (va_A [(h0, .inr (0, [v_documents, v_buffer, v_fetched, v_compared, v_maker, v_writer, .ref hp, .int i_madeDocuments, .int i_fetchedSteps])), (hp, .inr (4, [.int 0, .int p_i_going, .int p_i_writesLeft]))] sz)) 0 0 (va_A [(h0, .inr (0, [v_documents, v_buffer, v_fetched, v_compared, v_maker, v_writer, .ref hp, .int i_madeDocuments, .int i_fetchedSteps])), (hp, .inr (4, [.int 0, .int p_i_going, .int p_i_writesLeft]))] sz) := by
  refine Met.ofW (cc := prog_1_method_18_code) (maxL := 2) (ret := (some .boolean)) (by decide) rfl ?_
  intro p e s m args below meth c s₁ B hml hv
  obtain ⟨rfl, hsz, hP, hK, hD0, hN⟩ := hv
  have hx := B.exec
  have hb := B.bytes
  have hr := B.returns
  have hts := atoms_spec (ws := k_K_cutAfter) B.pre
  have hw0 : ∀ w ∈ w0, w.before _ s = true := fun w h => hts w (List.mem_cons_of_mem _ h)
  have hown : s.vm.findClass R_K = some m.cls := findClass_of_methodNamed B.named
  have hlocks := B.notSynchronized
  subst hsz
  have hD := hD0.self (sz := s.heap.size)
  generalize hAe : va_A [(h0, .inr (0, [v_documents, v_buffer, v_fetched, v_compared, v_maker, v_writer, .ref hp, .int i_madeDocuments, .int i_fetchedSteps])), (hp, .inr (4, [.int 0, .int p_i_going, .int p_i_writesLeft]))] s.heap.size = A at hD ⊢
  have hA : ∀ q : Nat, s.heap.size ≤ q → A q := fun q h => by rw [← hAe]; exact Or.inr h
  have hS : va_S A s.heap s.heap [] := va_S.rf
  have hP : va_P (dC, dI) vwCl [(h0, .inr (0, [v_documents, v_buffer, v_fetched, v_compared, v_maker, v_writer, .ref hp, .int i_madeDocuments, .int i_fetchedSteps])), (hp, .inr (4, [.int 0, .int p_i_going, .int p_i_writesLeft]))] s.heap := hP
  have hl := lv_entry ([.ref h0, .int a1]) (n := 2) (Nat.le_of_ble_eq_true rfl)
  rw [lg_entry_eq]
  generalize (lg_sl ([.ref h0, .int a1]) ++ List.replicate (2 - (lg_sl ([.ref h0, .int a1])).length) Slot.unset).toArray = ls at hl ⊢
  have hl : lv_has ls 2 [(0, .ref h0), (1, .int a1)] := hl
  refine lv_aload_n hx hb d_K_cutAfter_0 rfl (lv_at hl 0 rfl) ?_
  have hPc := hP.sub (ws' := [(h0, .inr (0, [v_documents, v_buffer, v_fetched, v_compared, v_maker, v_writer, .ref hp, .int i_madeDocuments, .int i_fetchedSteps])), (hp, .inr (4, [.int 0, .int p_i_going, .int p_i_writesLeft]))]) [0, 1] rfl
  have hKc := hK.sub (tys' := []) [] rfl
  refine ps_v (va_runV (As := []) (rest := []) ⟨hx, hb, hml, hown, hw0⟩ (g_needPower l dC dI h0 v_documents v_buffer v_fetched v_compared v_maker v_writer i_madeDocuments i_fetchedSteps hp p_i_going p_i_writesLeft) (cwV 0 hw0 (gd_Vm wm_404 wm_405 wm_406 wm_308 wm_407) rfl rfl rfl (by decide +kernel) ⟨by decide +kernel, by decide +kernel⟩) (prV_R hPc hKc hN (va_recv hKc hPc (ci := 0) (q0 := 0) rfl rfl)) rfl rfl hl.1 rfl (lv_room (Nat.le_of_ble_eq_true rfl)) d_K_cutAfter_1 ⟨by decide +kernel, by decide +kernel⟩) ?_
  refine lv_iload_n hx hb d_K_cutAfter_4 rfl (lv_at hl 1 rfl) ?_
  refine lv_if_ge (tgt := 10) hx hb d_K_cutAfter_5 (by decide) (fun c_1 => ?_) (fun c_1 => absurd h1 c_1)
  refine lv_aload_n hx hb d_K_cutAfter_10 rfl (lv_at hl 0 rfl) ?_
  refine va_get (D := (dC, dI)) (ci := 0) (v := .ref hp) (C := R_K) (T := F_K) (N := 9) hx hb hw0 in_K hown hK hP 0 rfl rfl 6 (by decide) (hw0 (.fieldLink R_K 45 "TextKeeper" "power" "LTextKeeper$Power;") wm_187) (fun _ h9 => h9) rfl d_K_cutAfter_11 ?_
  refine lv_iload_n hx hb d_K_cutAfter_14 rfl (lv_at hl 1 rfl) ?_
  have hPc := hP.sub (ws' := [(hp, .inr (4, [.int 0, .int p_i_going, .int p_i_writesLeft]))]) [1] rfl
  have hKc := hK.sub (tys' := []) [] rfl
  have hDc := hD.sub (ws' := [(hp, .inr (4, [.int 0, .int p_i_going, .int p_i_writesLeft]))]) [1] (by decide) rfl
  have hFc := va_free (wc := [(hp, .inr (4, [.int 0, .int p_i_going, .int p_i_writesLeft]))]) hD hS hA [1] rfl
  refine va_callv (va_runV (As := [.int a1]) (rest := []) ⟨hx, hb, hml, hown, hw0⟩ (g_goAfter l dC dI s.heap.size hp 0 p_i_going p_i_writesLeft a1) (cwV 1 hw0 (gd_Vm wm_415 wm_416 wm_417 wm_183 wm_418) rfl rfl rfl (by decide +kernel) ⟨by decide +kernel, by decide +kernel⟩) (prV_E hPc hKc hDc hN (va_recv hKc hPc (ci := 4) (q0 := 0) rfl rfl)) rfl rfl hl.1 rfl (lv_room (Nat.le_of_ble_eq_true rfl)) d_K_cutAfter_15 ⟨by decide +kernel, by decide +kernel⟩) hS (fun q _ h => hFc q h) hFc (fun u t H1 locs ht hvm hw hB hz1 hk1 hS => ?_)
  obtain ⟨hP1, hK1, hD1⟩ := hB
  rw [ht] at hP1
  have hK1 := va_K.moved hvm.symm hK1
  try dsimp only at hw
  obtain ⟨hP, hD⟩ := va_join (wr := [(h0, .inr (0, [v_documents, v_buffer, v_fetched, v_compared, v_maker, v_writer, .ref hp, .int i_madeDocuments, .int i_fetchedSteps]))]) (w1 := [(hp, .inr (4, [.int 0, .int 1, .int a1]))]) hP hD [1] [0] rfl rfl (by decide) (by decide) hk1 hFc hP1 hD1
  generalize H1 = H at hP hS ⊢
  replace hP : va_P (dC, dI) vwCl [(h0, .inr (0, [v_documents, v_buffer, v_fetched, v_compared, v_maker, v_writer, .ref hp, .int i_madeDocuments, .int i_fetchedSteps])), (hp, .inr (4, [.int 0, .int 1, .int a1]))] H := hP
  replace hD : va_D A [(h0, .inr (0, [v_documents, v_buffer, v_fetched, v_compared, v_maker, v_writer, .ref hp, .int i_madeDocuments, .int i_fetchedSteps])), (hp, .inr (4, [.int 0, .int 1, .int a1]))] := hD
  replace hK : va_K (dC, dI) vwCl [] s := hK
  refine lv_iconst (v := 1) hx hb d_K_cutAfter_18 (by decide) ?_
  have hP9 := hP.sub (ws' := [(h0, .inr (0, [v_documents, v_buffer, v_fetched, v_compared, v_maker, v_writer, .ref hp, .int i_madeDocuments, .int i_fetchedSteps])), (hp, .inr (4, [.int 0, .int 1, .int a1]))]) [0, 1] rfl
  have hD9 := hD.sub (ws' := [(h0, .inr (0, [v_documents, v_buffer, v_fetched, v_compared, v_maker, v_writer, .ref hp, .int i_madeDocuments, .int i_fetchedSteps])), (hp, .inr (4, [.int 0, .int 1, .int a1]))]) [0, 1] (by decide) rfl
  have hK9 := hK.sub (tys' := []) [] rfl
  exact W.zret (v := 1) (ty := .boolean) hx hb hr rfl (fun t ht hW => ⟨⟨1, (), rfl, rfl, by rw [ht]; exact hP9, va_K.moved hW.alike hK9, hD9⟩, hS.F ht⟩) hS.2.2 d_K_cutAfter_19
set_option maxHeartbeats 4000000 in
set_option maxRecDepth 100000 in
theorem g_cut_F (l : Launch) (dC : Nat → ClassId) (dI : Nat → Nat → Nat) (h0 : Nat) (v_documents : Value) (v_buffer : Value) (v_fetched : Value) (v_compared : Value) (v_maker : Value) (v_writer : Value) (i_madeDocuments : Int32) (i_fetchedSteps : Int32) (hp : Nat) (p_i_going : Int32) (p_i_writesLeft : Int32) (a1 : Int32) (h1 : a1 < 0) : Met l y_K_cutAfter k_K_cutAfter ({ frames := 1, cells := 0, slots := 0, locals := 20 } : Room) (va_Pc [.ref h0, .int a1] (pc_R (dC, dI) [(h0, .inr (0, [v_documents, v_buffer, v_fetched, v_compared, v_maker, v_writer, .ref hp, .int i_madeDocuments, .int i_fetchedSteps])), (hp, .inr (4, [.int 0, .int p_i_going, .int p_i_writesLeft]))] [])) (vp_Si (fun r => r = 0)) 0 0 (fun _ => False) := by
  refine Met.ofW (cc := prog_1_method_18_code) (maxL := 2) (ret := (some .boolean)) (by decide) rfl ?_
  intro p e s m args below meth c s₁ B hml hv
  obtain ⟨rfl, hP, hK, hN⟩ := hv
  have hx := B.exec
  have hb := B.bytes
  have hr := B.returns
  have hts := atoms_spec (ws := k_K_cutAfter) B.pre
  have hw0 : ∀ w ∈ w0, w.before _ s = true := fun w h => hts w (List.mem_cons_of_mem _ h)
  have hown : s.vm.findClass R_K = some m.cls := findClass_of_methodNamed B.named
  have hlocks := B.notSynchronized
  have hP : va_P (dC, dI) vwCl [(h0, .inr (0, [v_documents, v_buffer, v_fetched, v_compared, v_maker, v_writer, .ref hp, .int i_madeDocuments, .int i_fetchedSteps])), (hp, .inr (4, [.int 0, .int p_i_going, .int p_i_writesLeft]))] s.heap := hP
  have hl := lv_entry ([.ref h0, .int a1]) (n := 2) (Nat.le_of_ble_eq_true rfl)
  rw [lg_entry_eq]
  generalize (lg_sl ([.ref h0, .int a1]) ++ List.replicate (2 - (lg_sl ([.ref h0, .int a1])).length) Slot.unset).toArray = ls at hl ⊢
  have hl : lv_has ls 2 [(0, .ref h0), (1, .int a1)] := hl
  refine lv_aload_n hx hb d_K_cutAfter_0 rfl (lv_at hl 0 rfl) ?_
  have hPc := hP.sub (ws' := [(h0, .inr (0, [v_documents, v_buffer, v_fetched, v_compared, v_maker, v_writer, .ref hp, .int i_madeDocuments, .int i_fetchedSteps])), (hp, .inr (4, [.int 0, .int p_i_going, .int p_i_writesLeft]))]) [0, 1] rfl
  have hKc := hK.sub (tys' := []) [] rfl
  refine ps_v (va_runV (As := []) (rest := []) ⟨hx, hb, hml, hown, hw0⟩ (g_needPower l dC dI h0 v_documents v_buffer v_fetched v_compared v_maker v_writer i_madeDocuments i_fetchedSteps hp p_i_going p_i_writesLeft) (cwV 0 hw0 (gd_Vm wm_404 wm_405 wm_406 wm_308 wm_407) rfl rfl rfl (by decide +kernel) ⟨by decide +kernel, by decide +kernel⟩) (prV_R hPc hKc hN (va_recv hKc hPc (ci := 0) (q0 := 0) rfl rfl)) rfl rfl hl.1 rfl (lv_room (Nat.le_of_ble_eq_true rfl)) d_K_cutAfter_1 ⟨by decide +kernel, by decide +kernel⟩) ?_
  refine lv_iload_n hx hb d_K_cutAfter_4 rfl (lv_at hl 1 rfl) ?_
  refine lv_if_ge (tgt := 10) hx hb d_K_cutAfter_5 (by decide) (fun c_1 => absurd h1 (Int32.not_lt.mpr c_1)) (fun c_1 => ?_)
  refine lv_iconst (v := 0) hx hb d_K_cutAfter_8 (by decide) ?_
  exact W.zret (v := 0) (ty := .boolean) hx hb hr rfl (fun t ht hW => ⟨0, rfl, rfl, ht⟩) (fun q h => by cases h) d_K_cutAfter_9
set_option maxHeartbeats 4000000 in
set_option maxRecDepth 100000 in
theorem g_start_F (l : Launch) (dC : Nat → ClassId) (dI : Nat → Nat → Nat) (h0 : Nat) (v_documents : Value) (v_buffer : Value) (v_fetched : Value) (v_compared : Value) (v_maker : Value) (v_writer : Value) (i_madeDocuments : Int32) (i_fetchedSteps : Int32) (hp : Nat) (p_i_going : Int32) (p_i_writesLeft : Int32)  : Met l y_K_start k_K_start ({ frames := 0, cells := 0, slots := 0, locals := 0 } : Room) (va_Pc [.ref h0] (pc_R (dC, dI) [(h0, .inr (0, [v_documents, v_buffer, v_fetched, v_compared, v_maker, v_writer, .ref hp, .int i_madeDocuments, .int i_fetchedSteps])), (hp, .inr (4, [.int 0, .int p_i_going, .int p_i_writesLeft]))] [])) (vp_Si (fun r => r = 0)) 0 0 (fun _ => False) := by
  refine Met.ofW (cc := prog_1_method_19_code) (maxL := 1) (ret := (some .boolean)) (by decide) rfl ?_
  intro p e s m args below meth c s₁ B hml hv
  obtain ⟨rfl, hP, hK, hN⟩ := hv
  have hx := B.exec
  have hb := B.bytes
  have hr := B.returns
  have hts := atoms_spec (ws := k_K_start) B.pre
  have hw0 : ∀ w ∈ w0, w.before _ s = true := fun w h => hts w (List.mem_cons_of_mem _ h)
  have hown : s.vm.findClass R_K = some m.cls := findClass_of_methodNamed B.named
  have hlocks := B.notSynchronized
  have hP : va_P (dC, dI) vwCl [(h0, .inr (0, [v_documents, v_buffer, v_fetched, v_compared, v_maker, v_writer, .ref hp, .int i_madeDocuments, .int i_fetchedSteps])), (hp, .inr (4, [.int 0, .int p_i_going, .int p_i_writesLeft]))] s.heap := hP
  have hl := lv_entry ([.ref h0]) (n := 1) (Nat.le_of_ble_eq_true rfl)
  rw [lg_entry_eq]
  generalize (lg_sl ([.ref h0]) ++ List.replicate (1 - (lg_sl ([.ref h0])).length) Slot.unset).toArray = ls at hl ⊢
  have hl : lv_has ls 1 [(0, .ref h0)] := hl
  refine lv_aload_n hx hb d_K_start_0 rfl (lv_at hl 0 rfl) ?_
  refine va_get (D := (dC, dI)) (ci := 0) (v := .ref hp) (C := R_K) (T := F_K) (N := 9) hx hb hw0 in_K hown hK hP 0 rfl rfl 6 (by decide) (hw0 (.fieldLink R_K 45 "TextKeeper" "power" "LTextKeeper$Power;") wm_187) (fun _ h9 => h9) rfl d_K_start_1 ?_
  refine va_getN (D := (dC, dI)) (ci := 4) (v := .int 0) (C := R_P) (T := F_P) (N := 3) hx hb hw0 in_P hown hK hP 1 rfl rfl 0 (by decide) (va_Nw.use rfl (hN.1 (.fieldLinkNest R_K 180 "TextKeeper$Power" "down" "Z" "TextKeeper") (List.mem_of_getElem? (i := 13) rfl))) (fun _ h9 => h9) rfl d_K_start_4 ?_
  refine lv_if_ne (tgt := 12) hx hb d_K_start_7 (by decide) (fun h9 => absurd h9 (by decide +kernel)) (fun _ => ?_)
  refine lv_iconst (v := 0) hx hb d_K_start_10 (by decide) ?_
  exact W.zret (v := 0) (ty := .boolean) hx hb hr rfl (fun t ht hW => ⟨0, rfl, rfl, ht⟩) (fun q h => by cases h) d_K_start_11
set_option maxHeartbeats 4000000 in
set_option maxRecDepth 100000 in
theorem g_start_T (l : Launch) (dC : Nat → ClassId) (dI : Nat → Nat → Nat) (sz : Nat) (h0 : Nat) (v_documents : Value) (v_buffer : Value) (v_fetched : Value) (v_compared : Value) (v_maker : Value) (v_writer : Value) (i_madeDocuments : Int32) (i_fetchedSteps : Int32) (hp : Nat) (p_i_going : Int32) (p_i_writesLeft : Int32)  : Met l y_K_start k_K_start ({ frames := 1, cells := 0, slots := 0, locals := 20 } : Room) (va_Pc [.ref h0] (pc_E (dC, dI) [(h0, .inr (0, [v_documents, v_buffer, v_fetched, v_compared, v_maker, v_writer, .ref hp, .int i_madeDocuments, .int i_fetchedSteps])), (hp, .inr (4, [.int 1, .int p_i_going, .int p_i_writesLeft]))] [] sz)) (va_Qi (fun (r : Int32) (_ : Unit) => r = 1) (fun (_ : Unit) t => at_E (dC, dI) (va_A [(h0, .inr (0, [v_documents, v_buffer, v_fetched, v_compared, v_maker, v_writer, .ref hp, .int i_madeDocuments, .int i_fetchedSteps])), (hp, .inr (4, [.int 1, .int p_i_going, .int p_i_writesLeft]))] sz) [(h0, .inr (0, [v_documents, v_buffer, v_fetched, v_compared, v_maker, v_writer, .ref hp, .int i_madeDocuments, .int i_fetchedSteps])), (hp, .inr (4, [.int 0, .int 0, .int p_i_writesLeft]))] [] t) (va_A [(h0, .inr (0, [v_documents, v_buffer, v_fetched, v_compared, v_maker, v_writer, .ref hp, .int i_madeDocuments, .int i_fetchedSteps])), (hp, .inr (4, [.int 1, .int p_i_going, .int p_i_writesLeft]))] sz)) 0 0 (va_A [(h0, .inr (0, [v_documents, v_buffer, v_fetched, v_compared, v_maker, v_writer, .ref hp, .int i_madeDocuments, .int i_fetchedSteps])), (hp, .inr (4, [.int 1, .int p_i_going, .int p_i_writesLeft]))] sz) := by
  refine Met.ofW (cc := prog_1_method_19_code) (maxL := 1) (ret := (some .boolean)) (by decide) rfl ?_
  intro p e s m args below meth c s₁ B hml hv
  obtain ⟨rfl, hsz, hP, hK, hD0, hN⟩ := hv
  have hx := B.exec
  have hb := B.bytes
  have hr := B.returns
  have hts := atoms_spec (ws := k_K_start) B.pre
  have hw0 : ∀ w ∈ w0, w.before _ s = true := fun w h => hts w (List.mem_cons_of_mem _ h)
  have hown : s.vm.findClass R_K = some m.cls := findClass_of_methodNamed B.named
  have hlocks := B.notSynchronized
  subst hsz
  have hD := hD0.self (sz := s.heap.size)
  generalize hAe : va_A [(h0, .inr (0, [v_documents, v_buffer, v_fetched, v_compared, v_maker, v_writer, .ref hp, .int i_madeDocuments, .int i_fetchedSteps])), (hp, .inr (4, [.int 1, .int p_i_going, .int p_i_writesLeft]))] s.heap.size = A at hD ⊢
  have hA : ∀ q : Nat, s.heap.size ≤ q → A q := fun q h => by rw [← hAe]; exact Or.inr h
  have hS : va_S A s.heap s.heap [] := va_S.rf
  have hP : va_P (dC, dI) vwCl [(h0, .inr (0, [v_documents, v_buffer, v_fetched, v_compared, v_maker, v_writer, .ref hp, .int i_madeDocuments, .int i_fetchedSteps])), (hp, .inr (4, [.int 1, .int p_i_going, .int p_i_writesLeft]))] s.heap := hP
  have hl := lv_entry ([.ref h0]) (n := 1) (Nat.le_of_ble_eq_true rfl)
  rw [lg_entry_eq]
  generalize (lg_sl ([.ref h0]) ++ List.replicate (1 - (lg_sl ([.ref h0])).length) Slot.unset).toArray = ls at hl ⊢
  have hl : lv_has ls 1 [(0, .ref h0)] := hl
  refine lv_aload_n hx hb d_K_start_0 rfl (lv_at hl 0 rfl) ?_
  refine va_get (D := (dC, dI)) (ci := 0) (v := .ref hp) (C := R_K) (T := F_K) (N := 9) hx hb hw0 in_K hown hK hP 0 rfl rfl 6 (by decide) (hw0 (.fieldLink R_K 45 "TextKeeper" "power" "LTextKeeper$Power;") wm_187) (fun _ h9 => h9) rfl d_K_start_1 ?_
  refine va_getN (D := (dC, dI)) (ci := 4) (v := .int 1) (C := R_P) (T := F_P) (N := 3) hx hb hw0 in_P hown hK hP 1 rfl rfl 0 (by decide) (va_Nw.use rfl (hN.1 (.fieldLinkNest R_K 180 "TextKeeper$Power" "down" "Z" "TextKeeper") (List.mem_of_getElem? (i := 13) rfl))) (fun _ h9 => h9) rfl d_K_start_4 ?_
  refine lv_if_ne (tgt := 12) hx hb d_K_start_7 (by decide) (fun _ => ?_) (fun h9 => absurd h9 (by decide +kernel))
  refine lv_aload_n hx hb d_K_start_12 rfl (lv_at hl 0 rfl) ?_
  refine va_get (D := (dC, dI)) (ci := 0) (v := .ref hp) (C := R_K) (T := F_K) (N := 9) hx hb hw0 in_K hown hK hP 0 rfl rfl 6 (by decide) (hw0 (.fieldLink R_K 45 "TextKeeper" "power" "LTextKeeper$Power;") wm_187) (fun _ h9 => h9) rfl d_K_start_13 ?_
  have hPc := hP.sub (ws' := [(hp, .inr (4, [.int 1, .int p_i_going, .int p_i_writesLeft]))]) [1] rfl
  have hKc := hK.sub (tys' := []) [] rfl
  have hDc := hD.sub (ws' := [(hp, .inr (4, [.int 1, .int p_i_going, .int p_i_writesLeft]))]) [1] (by decide) rfl
  have hFc := va_free (wc := [(hp, .inr (4, [.int 1, .int p_i_going, .int p_i_writesLeft]))]) hD hS hA [1] rfl
  refine va_callv (va_runV (As := []) (rest := []) ⟨hx, hb, hml, hown, hw0⟩ (g_comeBack l dC dI s.heap.size hp 1 p_i_going p_i_writesLeft) (cwV 0 hw0 (gd_Vm wm_419 wm_420 wm_421 wm_183 wm_422) rfl rfl rfl (by decide +kernel) ⟨by decide +kernel, by decide +kernel⟩) (prV_E hPc hKc hDc hN (va_recv hKc hPc (ci := 4) (q0 := 0) rfl rfl)) rfl rfl hl.1 rfl (lv_room (Nat.le_of_ble_eq_true rfl)) d_K_start_16 ⟨by decide +kernel, by decide +kernel⟩) hS (fun q _ h => hFc q h) hFc (fun u t H1 locs ht hvm hw hB hz1 hk1 hS => ?_)
  obtain ⟨hP1, hK1, hD1⟩ := hB
  rw [ht] at hP1
  have hK1 := va_K.moved hvm.symm hK1
  try dsimp only at hw
  obtain ⟨hP, hD⟩ := va_join (wr := [(h0, .inr (0, [v_documents, v_buffer, v_fetched, v_compared, v_maker, v_writer, .ref hp, .int i_madeDocuments, .int i_fetchedSteps]))]) (w1 := [(hp, .inr (4, [.int 0, .int 0, .int p_i_writesLeft]))]) hP hD [1] [0] rfl rfl (by decide) (by decide) hk1 hFc hP1 hD1
  generalize H1 = H at hP hS ⊢
  replace hP : va_P (dC, dI) vwCl [(h0, .inr (0, [v_documents, v_buffer, v_fetched, v_compared, v_maker, v_writer, .ref hp, .int i_madeDocuments, .int i_fetchedSteps])), (hp, .inr (4, [.int 0, .int 0, .int p_i_writesLeft]))] H := hP
  replace hD : va_D A [(h0, .inr (0, [v_documents, v_buffer, v_fetched, v_compared, v_maker, v_writer, .ref hp, .int i_madeDocuments, .int i_fetchedSteps])), (hp, .inr (4, [.int 0, .int 0, .int p_i_writesLeft]))] := hD
  replace hK : va_K (dC, dI) vwCl [] s := hK
  refine lv_iconst (v := 1) hx hb d_K_start_19 (by decide) ?_
  have hP9 := hP.sub (ws' := [(h0, .inr (0, [v_documents, v_buffer, v_fetched, v_compared, v_maker, v_writer, .ref hp, .int i_madeDocuments, .int i_fetchedSteps])), (hp, .inr (4, [.int 0, .int 0, .int p_i_writesLeft]))]) [0, 1] rfl
  have hD9 := hD.sub (ws' := [(h0, .inr (0, [v_documents, v_buffer, v_fetched, v_compared, v_maker, v_writer, .ref hp, .int i_madeDocuments, .int i_fetchedSteps])), (hp, .inr (4, [.int 0, .int 0, .int p_i_writesLeft]))]) [0, 1] (by decide) rfl
  have hK9 := hK.sub (tys' := []) [] rfl
  exact W.zret (v := 1) (ty := .boolean) hx hb hr rfl (fun t ht hW => ⟨⟨1, (), rfl, rfl, by rw [ht]; exact hP9, va_K.moved hW.alike hK9, hD9⟩, hS.F ht⟩) hS.2.2 d_K_start_20
set_option maxHeartbeats 4000000 in
set_option maxRecDepth 100000 in
theorem g_isDown_F (l : Launch) (dC : Nat → ClassId) (dI : Nat → Nat → Nat) (h0 : Nat) (v_documents : Value) (v_buffer : Value) (v_fetched : Value) (v_compared : Value) (v_maker : Value) (v_writer : Value) (i_madeDocuments : Int32) (i_fetchedSteps : Int32) (hp : Nat) (p_i_going : Int32) (p_i_writesLeft : Int32)  : Met l y_K_isDown k_K_isDown ({ frames := 0, cells := 0, slots := 0, locals := 0 } : Room) (va_Pc [.ref h0] (pc_R (dC, dI) [(h0, .inr (0, [v_documents, v_buffer, v_fetched, v_compared, v_maker, v_writer, .ref hp, .int i_madeDocuments, .int i_fetchedSteps])), (hp, .inr (4, [.int 0, .int p_i_going, .int p_i_writesLeft]))] [])) (vp_Si (fun r => r = 0)) 0 0 (fun _ => False) := by
  refine Met.ofW (cc := prog_1_method_20_code) (maxL := 1) (ret := (some .boolean)) (by decide) rfl ?_
  intro p e s m args below meth c s₁ B hml hv
  obtain ⟨rfl, hP, hK, hN⟩ := hv
  have hx := B.exec
  have hb := B.bytes
  have hr := B.returns
  have hts := atoms_spec (ws := k_K_isDown) B.pre
  have hw0 : ∀ w ∈ w0, w.before _ s = true := fun w h => hts w (List.mem_cons_of_mem _ h)
  have hown : s.vm.findClass R_K = some m.cls := findClass_of_methodNamed B.named
  have hlocks := B.notSynchronized
  have hP : va_P (dC, dI) vwCl [(h0, .inr (0, [v_documents, v_buffer, v_fetched, v_compared, v_maker, v_writer, .ref hp, .int i_madeDocuments, .int i_fetchedSteps])), (hp, .inr (4, [.int 0, .int p_i_going, .int p_i_writesLeft]))] s.heap := hP
  have hl := lv_entry ([.ref h0]) (n := 1) (Nat.le_of_ble_eq_true rfl)
  rw [lg_entry_eq]
  generalize (lg_sl ([.ref h0]) ++ List.replicate (1 - (lg_sl ([.ref h0])).length) Slot.unset).toArray = ls at hl ⊢
  have hl : lv_has ls 1 [(0, .ref h0)] := hl
  refine lv_aload_n hx hb d_K_isDown_0 rfl (lv_at hl 0 rfl) ?_
  refine va_get (D := (dC, dI)) (ci := 0) (v := .ref hp) (C := R_K) (T := F_K) (N := 9) hx hb hw0 in_K hown hK hP 0 rfl rfl 6 (by decide) (hw0 (.fieldLink R_K 45 "TextKeeper" "power" "LTextKeeper$Power;") wm_187) (fun _ h9 => h9) rfl d_K_isDown_1 ?_
  refine va_getN (D := (dC, dI)) (ci := 4) (v := .int 0) (C := R_P) (T := F_P) (N := 3) hx hb hw0 in_P hown hK hP 1 rfl rfl 0 (by decide) (va_Nw.use rfl (hN.1 (.fieldLinkNest R_K 180 "TextKeeper$Power" "down" "Z" "TextKeeper") (List.mem_of_getElem? (i := 13) rfl))) (fun _ h9 => h9) rfl d_K_isDown_4 ?_
  exact W.zret (v := 0) (ty := .boolean) hx hb hr rfl (fun t ht hW => ⟨0, rfl, rfl, ht⟩) (fun q h => by cases h) d_K_isDown_7
set_option maxHeartbeats 4000000 in
set_option maxRecDepth 100000 in
theorem g_isDown_T (l : Launch) (dC : Nat → ClassId) (dI : Nat → Nat → Nat) (h0 : Nat) (v_documents : Value) (v_buffer : Value) (v_fetched : Value) (v_compared : Value) (v_maker : Value) (v_writer : Value) (i_madeDocuments : Int32) (i_fetchedSteps : Int32) (hp : Nat) (p_i_going : Int32) (p_i_writesLeft : Int32)  : Met l y_K_isDown k_K_isDown ({ frames := 0, cells := 0, slots := 0, locals := 0 } : Room) (va_Pc [.ref h0] (pc_R (dC, dI) [(h0, .inr (0, [v_documents, v_buffer, v_fetched, v_compared, v_maker, v_writer, .ref hp, .int i_madeDocuments, .int i_fetchedSteps])), (hp, .inr (4, [.int 1, .int p_i_going, .int p_i_writesLeft]))] [])) (vp_Si (fun r => r = 1)) 0 0 (fun _ => False) := by
  refine Met.ofW (cc := prog_1_method_20_code) (maxL := 1) (ret := (some .boolean)) (by decide) rfl ?_
  intro p e s m args below meth c s₁ B hml hv
  obtain ⟨rfl, hP, hK, hN⟩ := hv
  have hx := B.exec
  have hb := B.bytes
  have hr := B.returns
  have hts := atoms_spec (ws := k_K_isDown) B.pre
  have hw0 : ∀ w ∈ w0, w.before _ s = true := fun w h => hts w (List.mem_cons_of_mem _ h)
  have hown : s.vm.findClass R_K = some m.cls := findClass_of_methodNamed B.named
  have hlocks := B.notSynchronized
  have hP : va_P (dC, dI) vwCl [(h0, .inr (0, [v_documents, v_buffer, v_fetched, v_compared, v_maker, v_writer, .ref hp, .int i_madeDocuments, .int i_fetchedSteps])), (hp, .inr (4, [.int 1, .int p_i_going, .int p_i_writesLeft]))] s.heap := hP
  have hl := lv_entry ([.ref h0]) (n := 1) (Nat.le_of_ble_eq_true rfl)
  rw [lg_entry_eq]
  generalize (lg_sl ([.ref h0]) ++ List.replicate (1 - (lg_sl ([.ref h0])).length) Slot.unset).toArray = ls at hl ⊢
  have hl : lv_has ls 1 [(0, .ref h0)] := hl
  refine lv_aload_n hx hb d_K_isDown_0 rfl (lv_at hl 0 rfl) ?_
  refine va_get (D := (dC, dI)) (ci := 0) (v := .ref hp) (C := R_K) (T := F_K) (N := 9) hx hb hw0 in_K hown hK hP 0 rfl rfl 6 (by decide) (hw0 (.fieldLink R_K 45 "TextKeeper" "power" "LTextKeeper$Power;") wm_187) (fun _ h9 => h9) rfl d_K_isDown_1 ?_
  refine va_getN (D := (dC, dI)) (ci := 4) (v := .int 1) (C := R_P) (T := F_P) (N := 3) hx hb hw0 in_P hown hK hP 1 rfl rfl 0 (by decide) (va_Nw.use rfl (hN.1 (.fieldLinkNest R_K 180 "TextKeeper$Power" "down" "Z" "TextKeeper") (List.mem_of_getElem? (i := 13) rfl))) (fun _ h9 => h9) rfl d_K_isDown_4 ?_
  exact W.zret (v := 1) (ty := .boolean) hx hb hr rfl (fun t ht hW => ⟨1, rfl, rfl, ht⟩) (fun q h => by cases h) d_K_isDown_7
set_option maxHeartbeats 4000000 in
set_option maxRecDepth 100000 in
theorem g_spend (l : Launch) (dC : Nat → ClassId) (dI : Nat → Nat → Nat) (sz : Nat) (h0 : Nat) (v_documents : Value) (v_buffer : Value) (v_fetched : Value) (v_compared : Value) (v_maker : Value) (v_writer : Value) (i_madeDocuments : Int32) (i_fetchedSteps : Int32) (hp : Nat) (go : Option Nat) (wl : Int32) (n : Nat) (hg : ∀ w, go = some w → wl = nI w ∧ w < 2 ^ 31) (hn : n < 2 ^ 30) (hle : ∀ w, go = some w → n ≤ w) : Met l y_K_spendWrites k_K_spendWrites ({ frames := 1, cells := 0, slots := 0, locals := 21 } : Room) (va_Pc [.ref h0, .int (nI n)] (pc_E (dC, dI) [(h0, .inr (0, [v_documents, v_buffer, v_fetched, v_compared, v_maker, v_writer, .ref hp, .int i_madeDocuments, .int i_fetchedSteps])), (hp, .inr (4, [.int 0, .int (bI go.isSome), .int wl]))] [] sz)) (va_Qv (fun (_ : Unit) => True) (fun (_ : Unit) t => ∃ (wl2 : Int32), (∀ w, go = some w → wl2 = nI (w - n)) ∧ at_E (dC, dI) (va_A [(h0, .inr (0, [v_documents, v_buffer, v_fetched, v_compared, v_maker, v_writer, .ref hp, .int i_madeDocuments, .int i_fetchedSteps])), (hp, .inr (4, [.int 0, .int (bI go.isSome), .int wl]))] sz) [(h0, .inr (0, [v_documents, v_buffer, v_fetched, v_compared, v_maker, v_writer, .ref hp, .int i_madeDocuments, .int i_fetchedSteps])), (hp, .inr (4, [.int 0, .int (bI go.isSome), .int wl2]))] [] t) (va_A [(h0, .inr (0, [v_documents, v_buffer, v_fetched, v_compared, v_maker, v_writer, .ref hp, .int i_madeDocuments, .int i_fetchedSteps])), (hp, .inr (4, [.int 0, .int (bI go.isSome), .int wl]))] sz)) 0 0 (va_A [(h0, .inr (0, [v_documents, v_buffer, v_fetched, v_compared, v_maker, v_writer, .ref hp, .int i_madeDocuments, .int i_fetchedSteps])), (hp, .inr (4, [.int 0, .int (bI go.isSome), .int wl]))] sz) := by
  refine Met.ofW (cc := prog_1_method_22_code) (maxL := 2) (ret := none) (by decide) rfl ?_
  intro p e s m args below meth c s₁ B hml hv
  obtain ⟨rfl, hsz, hP, hK, hD0, hN⟩ := hv
  have hx := B.exec
  have hb := B.bytes
  have hr := B.returns
  have hts := atoms_spec (ws := k_K_spendWrites) B.pre
  have hw0 : ∀ w ∈ w0, w.before _ s = true := fun w h => hts w (List.mem_cons_of_mem _ h)
  have hown : s.vm.findClass R_K = some m.cls := findClass_of_methodNamed B.named
  have hlocks := B.notSynchronized
  subst hsz
  have hD := hD0.self (sz := s.heap.size)
  generalize hAe : va_A [(h0, .inr (0, [v_documents, v_buffer, v_fetched, v_compared, v_maker, v_writer, .ref hp, .int i_madeDocuments, .int i_fetchedSteps])), (hp, .inr (4, [.int 0, .int (bI go.isSome), .int wl]))] s.heap.size = A at hD ⊢
  have hA : ∀ q : Nat, s.heap.size ≤ q → A q := fun q h => by rw [← hAe]; exact Or.inr h
  have hS : va_S A s.heap s.heap [] := va_S.rf
  have hP : va_P (dC, dI) vwCl [(h0, .inr (0, [v_documents, v_buffer, v_fetched, v_compared, v_maker, v_writer, .ref hp, .int i_madeDocuments, .int i_fetchedSteps])), (hp, .inr (4, [.int 0, .int (bI go.isSome), .int wl]))] s.heap := hP
  have hl := lv_entry ([.ref h0, .int (nI n)]) (n := 2) (Nat.le_of_ble_eq_true rfl)
  rw [lg_entry_eq]
  generalize (lg_sl ([.ref h0, .int (nI n)]) ++ List.replicate (2 - (lg_sl ([.ref h0, .int (nI n)])).length) Slot.unset).toArray = ls at hl ⊢
  have hl : lv_has ls 2 [(0, .ref h0), (1, .int (nI n))] := hl
  refine lv_aload_n hx hb d_K_spendWrites_0 rfl (lv_at hl 0 rfl) ?_
  refine va_get (D := (dC, dI)) (ci := 0) (v := .ref hp) (C := R_K) (T := F_K) (N := 9) hx hb hw0 in_K hown hK hP 0 rfl rfl 6 (by decide) (hw0 (.fieldLink R_K 45 "TextKeeper" "power" "LTextKeeper$Power;") wm_187) (fun _ h9 => h9) rfl d_K_spendWrites_1 ?_
  refine lv_iload_n hx hb d_K_spendWrites_4 rfl (lv_at hl 1 rfl) ?_
  have hPc := hP.sub (ws' := [(hp, .inr (4, [.int 0, .int (bI go.isSome), .int wl]))]) [1] rfl
  have hKc := hK.sub (tys' := []) [] rfl
  have hDc := hD.sub (ws' := [(hp, .inr (4, [.int 0, .int (bI go.isSome), .int wl]))]) [1] (by decide) rfl
  have hFc := va_free (wc := [(hp, .inr (4, [.int 0, .int (bI go.isSome), .int wl]))]) hD hS hA [1] rfl
  refine va_calli (va_runV (As := [.int (nI n)]) (rest := []) ⟨hx, hb, hml, hown, hw0⟩ (g_lasts_T l dC dI s.heap.size hp _ wl n (by first | assumption | decide | omega) (by first | assumption | decide | omega) (by first | assumption | decide | omega)) (cwV 1 hw0 (gd_Vm wm_423 wm_424 wm_425 wm_183 wm_426) rfl rfl rfl (by decide +kernel) ⟨by decide +kernel, by decide +kernel⟩) (prV_E hPc hKc hDc hN (va_recv hKc hPc (ci := 4) (q0 := 0) rfl rfl)) rfl rfl hl.1 rfl (lv_room (Nat.le_of_ble_eq_true rfl)) d_K_spendWrites_5 ⟨by decide +kernel, by decide +kernel⟩) hS (fun q _ h => hFc q h) hFc (fun r_1 u t H1 locs ht hvm hw hB hz1 hk1 hS => ?_)
  obtain ⟨wl2_2, hu_3, hP1, hK1, hD1⟩ := hB
  rw [ht] at hP1
  have hK1 := va_K.moved hvm.symm hK1
  try dsimp only at hw
  obtain ⟨hP, hD⟩ := va_join (wr := [(h0, .inr (0, [v_documents, v_buffer, v_fetched, v_compared, v_maker, v_writer, .ref hp, .int i_madeDocuments, .int i_fetchedSteps]))]) (w1 := [(hp, .inr (4, [.int 0, .int (bI go.isSome), .int wl2_2]))]) hP hD [1] [0] rfl rfl (by decide) (by decide) hk1 hFc hP1 hD1
  generalize H1 = H at hP hS ⊢
  replace hP : va_P (dC, dI) vwCl [(h0, .inr (0, [v_documents, v_buffer, v_fetched, v_compared, v_maker, v_writer, .ref hp, .int i_madeDocuments, .int i_fetchedSteps])), (hp, .inr (4, [.int 0, .int (bI go.isSome), .int wl2_2]))] H := hP
  replace hD : va_D A [(h0, .inr (0, [v_documents, v_buffer, v_fetched, v_compared, v_maker, v_writer, .ref hp, .int i_madeDocuments, .int i_fetchedSteps])), (hp, .inr (4, [.int 0, .int (bI go.isSome), .int wl2_2]))] := hD
  replace hK : va_K (dC, dI) vwCl [] s := hK
  obtain rfl : r_1 = 1 := hw
  refine lv_if_ne (tgt := 28) hx hb d_K_spendWrites_8 (by decide) (fun _ => ?_) (fun h9 => absurd h9 (by decide +kernel))
  have hP9 := hP.sub (ws' := [(h0, .inr (0, [v_documents, v_buffer, v_fetched, v_compared, v_maker, v_writer, .ref hp, .int i_madeDocuments, .int i_fetchedSteps])), (hp, .inr (4, [.int 0, .int (bI go.isSome), .int wl2_2]))]) [0, 1] rfl
  have hD9 := hD.sub (ws' := [(h0, .inr (0, [v_documents, v_buffer, v_fetched, v_compared, v_maker, v_writer, .ref hp, .int i_madeDocuments, .int i_fetchedSteps])), (hp, .inr (4, [.int 0, .int (bI go.isSome), .int wl2_2]))]) [0, 1] (by decide) rfl
  have hK9 := hK.sub (tys' := []) [] rfl
  exact W.vret hx hb hr (fun t ht hW => ⟨⟨(), rfl, trivial, wl2_2, hu_3, by rw [ht]; exact hP9, va_K.moved hW.alike hK9, hD9⟩, hS.F ht⟩) hS.2.2 d_K_spendWrites_28
set_option maxHeartbeats 4000000 in
set_option maxRecDepth 100000 in
theorem g_pieceByte_D (l : Launch) (dC : Nat → ClassId) (dI : Nat → Nat → Nat) (h0 : Nat) (v_buffer : Value) (v_fetched : Value) (v_compared : Value) (v_maker : Value) (v_writer : Value) (i_madeDocuments : Int32) (i_fetchedSteps : Int32) (hp : Nat) (p_i_going : Int32) (p_i_writesLeft : Int32) (hd : Nat) (cD : ClassId) (fD : Nat → Option Nat) (a1 : Int32) (a2 : Int32) (a3 : Int32) (hdN : atN 8 fD a1 = none) : Met l y_K_pieceByte k_K_pieceByte ({ frames := 2, cells := 0, slots := 0, locals := 44 } : Room) (va_Pc [.ref h0, .int a1, .int a2, .int a3] (pc_R (dC, dI) [(h0, .inr (0, [.ref hd, v_buffer, v_fetched, v_compared, v_maker, v_writer, .ref hp, .int i_madeDocuments, .int i_fetchedSteps])), (hp, .inr (4, [.int 0, .int p_i_going, .int p_i_writesLeft])), (hd, .inl (cD, 8, .inr (.inr (.inr (.inr (fD))))))] [(cD, .object R_D)])) (vp_Si (fun r => r = (-1))) 0 0 (fun _ => False) := by
  refine Met.ofW (cc := prog_1_method_13_code) (maxL := 5) (ret := (some .int)) (by decide) rfl ?_
  intro p e s m args below meth c s₁ B hml hv
  obtain ⟨rfl, hP, hK, hN⟩ := hv
  have hx := B.exec
  have hb := B.bytes
  have hr := B.returns
  have hts := atoms_spec (ws := k_K_pieceByte) B.pre
  have hw0 : ∀ w ∈ w0, w.before _ s = true := fun w h => hts w (List.mem_cons_of_mem _ h)
  have hown : s.vm.findClass R_K = some m.cls := findClass_of_methodNamed B.named
  have hlocks := B.notSynchronized
  have hP : va_P (dC, dI) vwCl [(h0, .inr (0, [.ref hd, v_buffer, v_fetched, v_compared, v_maker, v_writer, .ref hp, .int i_madeDocuments, .int i_fetchedSteps])), (hp, .inr (4, [.int 0, .int p_i_going, .int p_i_writesLeft])), (hd, .inl (cD, 8, .inr (.inr (.inr (.inr (fD))))))] s.heap := hP
  have hl := lv_entry ([.ref h0, .int a1, .int a2, .int a3]) (n := 5) (Nat.le_of_ble_eq_true rfl)
  rw [lg_entry_eq]
  generalize (lg_sl ([.ref h0, .int a1, .int a2, .int a3]) ++ List.replicate (5 - (lg_sl ([.ref h0, .int a1, .int a2, .int a3])).length) Slot.unset).toArray = ls at hl ⊢
  have hl : lv_has ls 5 [(0, .ref h0), (1, .int a1), (2, .int a2), (3, .int a3)] := hl
  refine lv_aload_n hx hb d_K_pieceByte_0 rfl (lv_at hl 0 rfl) ?_
  have hPc := hP.sub (ws' := [(h0, .inr (0, [.ref hd, v_buffer, v_fetched, v_compared, v_maker, v_writer, .ref hp, .int i_madeDocuments, .int i_fetchedSteps])), (hp, .inr (4, [.int 0, .int p_i_going, .int p_i_writesLeft]))]) [0, 1] rfl
  have hKc := hK.sub (tys' := []) [] rfl
  refine ps_v (va_runV (As := []) (rest := []) ⟨hx, hb, hml, hown, hw0⟩ (g_needPower l dC dI h0 (.ref hd) v_buffer v_fetched v_compared v_maker v_writer i_madeDocuments i_fetchedSteps hp p_i_going p_i_writesLeft) (cwV 0 hw0 (gd_Vm wm_404 wm_405 wm_406 wm_308 wm_407) rfl rfl rfl (by decide +kernel) ⟨by decide +kernel, by decide +kernel⟩) (prV_R hPc hKc hN (va_recv hKc hPc (ci := 0) (q0 := 0) rfl rfl)) rfl rfl hl.1 rfl (lv_room (Nat.le_of_ble_eq_true rfl)) d_K_pieceByte_1 ⟨by decide +kernel, by decide +kernel⟩) ?_
  refine lv_aload_n hx hb d_K_pieceByte_4 rfl (lv_at hl 0 rfl) ?_
  refine lv_iload_n hx hb d_K_pieceByte_5 rfl (lv_at hl 1 rfl) ?_
  refine lv_iload_n hx hb d_K_pieceByte_6 rfl (lv_at hl 2 rfl) ?_
  have hPc := hP.sub (ws' := [(h0, .inr (0, [.ref hd, v_buffer, v_fetched, v_compared, v_maker, v_writer, .ref hp, .int i_madeDocuments, .int i_fetchedSteps])), (hd, .inl (cD, 8, .inr (.inr (.inr (.inr ((fD)))))))]) [0, 2] rfl
  have hKc := hK.sub (tys' := [(cD, .object R_D)]) [0] rfl
  refine ps_q (va_runV (As := [.int a1, .int a2]) (rest := []) ⟨hx, hb, hml, hown, hw0⟩ (g_keptR_D l dC dI h0 v_buffer v_fetched v_compared v_maker v_writer (.ref hp) i_madeDocuments i_fetchedSteps hd cD (fD) a1 a2 (by first | assumption | decide | omega)) (cwV 2 hw0 (gd_Vm wm_427 wm_428 wm_429 wm_308 wm_430) rfl rfl rfl (by decide +kernel) ⟨by decide +kernel, by decide +kernel⟩) (prV_R hPc hKc hN (va_recv hKc hPc (ci := 0) (q0 := 0) rfl rfl)) rfl rfl hl.1 rfl (lv_room (Nat.le_of_ble_eq_true rfl)) d_K_pieceByte_7 ⟨by decide +kernel, by decide +kernel⟩) (fun r_1 hr_1 => ?_)
  obtain rfl : r_1 = none := hr_1
  refine W.eq (g2 := F0 m 10 ls [.null]) rfl ?_
  refine lv_astoreN (lv' := [(4, .null), (0, .ref h0), (1, .int a1), (2, .int a2), (3, .int a3)]) hx hb d_K_pieceByte_10 hl (by decide) rfl (fun ls hl => ?_)
  refine lv_aloadN hx hb d_K_pieceByte_12 (lv_at hl 0 rfl) ?_
  refine lv_ifnullN (tgt := 26) hx hb d_K_pieceByte_14 (by decide) ?_
  refine lv_iconst (v := (-1)) hx hb d_K_pieceByte_26 (by decide) ?_
  exact W.iret (v := (-1)) hx hb hr (fun t ht hW => ⟨(-1), rfl, rfl, ht⟩) (fun q h => by cases h) d_K_pieceByte_27
set_option maxHeartbeats 4000000 in
set_option maxRecDepth 100000 in
theorem g_pieceByte_N (l : Launch) (dC : Nat → ClassId) (dI : Nat → Nat → Nat) (h0 : Nat) (v_buffer : Value) (v_fetched : Value) (v_compared : Value) (v_maker : Value) (v_writer : Value) (i_madeDocuments : Int32) (i_fetchedSteps : Int32) (hp : Nat) (p_i_going : Int32) (p_i_writesLeft : Int32) (hd : Nat) (cD : ClassId) (fD : Nat → Option Nat) (hdo : Nat) (hra : Nat) (cR : ClassId) (df : Nat) (dn : Nat) (fr : Nat → Option Nat) (a1 : Int32) (a2 : Int32) (a3 : Int32) (hdS : atN 8 fD a1 = some hdo) (hdn : dn ≤ 64) (hkN : atN dn fr a2 = none) : Met l y_K_pieceByte k_K_pieceByte ({ frames := 2, cells := 0, slots := 0, locals := 44 } : Room) (va_Pc [.ref h0, .int a1, .int a2, .int a3] (pc_R (dC, dI) [(h0, .inr (0, [.ref hd, v_buffer, v_fetched, v_compared, v_maker, v_writer, .ref hp, .int i_madeDocuments, .int i_fetchedSteps])), (hp, .inr (4, [.int 0, .int p_i_going, .int p_i_writesLeft])), (hd, .inl (cD, 8, .inr (.inr (.inr (.inr (fD)))))), (hdo, .inr (5, [.ref hra, .int (nI df), .int (nI dn)])), (hra, .inl (cR, 64, .inr (.inr (.inr (.inr (fr))))))] [(cD, .object R_D), (cR, .object R_V)])) (vp_Si (fun r => r = (-1))) 0 0 (fun _ => False) := by
  refine Met.ofW (cc := prog_1_method_13_code) (maxL := 5) (ret := (some .int)) (by decide) rfl ?_
  intro p e s m args below meth c s₁ B hml hv
  obtain ⟨rfl, hP, hK, hN⟩ := hv
  have hx := B.exec
  have hb := B.bytes
  have hr := B.returns
  have hts := atoms_spec (ws := k_K_pieceByte) B.pre
  have hw0 : ∀ w ∈ w0, w.before _ s = true := fun w h => hts w (List.mem_cons_of_mem _ h)
  have hown : s.vm.findClass R_K = some m.cls := findClass_of_methodNamed B.named
  have hlocks := B.notSynchronized
  have hP : va_P (dC, dI) vwCl [(h0, .inr (0, [.ref hd, v_buffer, v_fetched, v_compared, v_maker, v_writer, .ref hp, .int i_madeDocuments, .int i_fetchedSteps])), (hp, .inr (4, [.int 0, .int p_i_going, .int p_i_writesLeft])), (hd, .inl (cD, 8, .inr (.inr (.inr (.inr (fD)))))), (hdo, .inr (5, [.ref hra, .int (nI df), .int (nI dn)])), (hra, .inl (cR, 64, .inr (.inr (.inr (.inr (fr))))))] s.heap := hP
  have hl := lv_entry ([.ref h0, .int a1, .int a2, .int a3]) (n := 5) (Nat.le_of_ble_eq_true rfl)
  rw [lg_entry_eq]
  generalize (lg_sl ([.ref h0, .int a1, .int a2, .int a3]) ++ List.replicate (5 - (lg_sl ([.ref h0, .int a1, .int a2, .int a3])).length) Slot.unset).toArray = ls at hl ⊢
  have hl : lv_has ls 5 [(0, .ref h0), (1, .int a1), (2, .int a2), (3, .int a3)] := hl
  refine lv_aload_n hx hb d_K_pieceByte_0 rfl (lv_at hl 0 rfl) ?_
  have hPc := hP.sub (ws' := [(h0, .inr (0, [.ref hd, v_buffer, v_fetched, v_compared, v_maker, v_writer, .ref hp, .int i_madeDocuments, .int i_fetchedSteps])), (hp, .inr (4, [.int 0, .int p_i_going, .int p_i_writesLeft]))]) [0, 1] rfl
  have hKc := hK.sub (tys' := []) [] rfl
  refine ps_v (va_runV (As := []) (rest := []) ⟨hx, hb, hml, hown, hw0⟩ (g_needPower l dC dI h0 (.ref hd) v_buffer v_fetched v_compared v_maker v_writer i_madeDocuments i_fetchedSteps hp p_i_going p_i_writesLeft) (cwV 0 hw0 (gd_Vm wm_404 wm_405 wm_406 wm_308 wm_407) rfl rfl rfl (by decide +kernel) ⟨by decide +kernel, by decide +kernel⟩) (prV_R hPc hKc hN (va_recv hKc hPc (ci := 0) (q0 := 0) rfl rfl)) rfl rfl hl.1 rfl (lv_room (Nat.le_of_ble_eq_true rfl)) d_K_pieceByte_1 ⟨by decide +kernel, by decide +kernel⟩) ?_
  refine lv_aload_n hx hb d_K_pieceByte_4 rfl (lv_at hl 0 rfl) ?_
  refine lv_iload_n hx hb d_K_pieceByte_5 rfl (lv_at hl 1 rfl) ?_
  refine lv_iload_n hx hb d_K_pieceByte_6 rfl (lv_at hl 2 rfl) ?_
  have hPc := hP.sub (ws' := [(h0, .inr (0, [.ref hd, v_buffer, v_fetched, v_compared, v_maker, v_writer, .ref hp, .int i_madeDocuments, .int i_fetchedSteps])), (hd, .inl (cD, 8, .inr (.inr (.inr (.inr ((fD))))))), (hdo, .inr (5, [.ref hra, .int (nI df), .int (nI dn)])), (hra, .inl (cR, 64, .inr (.inr (.inr (.inr ((fr)))))))]) [0, 2, 3, 4] rfl
  have hKc := hK.sub (tys' := [(cD, .object R_D), (cR, .object R_V)]) [0, 1] rfl
  refine ps_q (va_runV (As := [.int a1, .int a2]) (rest := []) ⟨hx, hb, hml, hown, hw0⟩ (g_keptR_N l dC dI h0 v_buffer v_fetched v_compared v_maker v_writer (.ref hp) i_madeDocuments i_fetchedSteps hd cD (fD) _ hra cR df dn (fr) a1 a2 (by first | assumption | decide | omega) (by first | assumption | decide | omega) (by first | assumption | decide | omega)) (cwV 2 hw0 (gd_Vm wm_427 wm_428 wm_429 wm_308 wm_430) rfl rfl rfl (by decide +kernel) ⟨by decide +kernel, by decide +kernel⟩) (prV_R hPc hKc hN (va_recv hKc hPc (ci := 0) (q0 := 0) rfl rfl)) rfl rfl hl.1 rfl (lv_room (Nat.le_of_ble_eq_true rfl)) d_K_pieceByte_7 ⟨by decide +kernel, by decide +kernel⟩) (fun r_1 hr_1 => ?_)
  obtain rfl : r_1 = none := hr_1
  refine W.eq (g2 := F0 m 10 ls [.null]) rfl ?_
  refine lv_astoreN (lv' := [(4, .null), (0, .ref h0), (1, .int a1), (2, .int a2), (3, .int a3)]) hx hb d_K_pieceByte_10 hl (by decide) rfl (fun ls hl => ?_)
  refine lv_aloadN hx hb d_K_pieceByte_12 (lv_at hl 0 rfl) ?_
  refine lv_ifnullN (tgt := 26) hx hb d_K_pieceByte_14 (by decide) ?_
  refine lv_iconst (v := (-1)) hx hb d_K_pieceByte_26 (by decide) ?_
  exact W.iret (v := (-1)) hx hb hr (fun t ht hW => ⟨(-1), rfl, rfl, ht⟩) (fun q h => by cases h) d_K_pieceByte_27
set_option maxHeartbeats 4000000 in
set_option maxRecDepth 100000 in
theorem g_pieceByte_F (l : Launch) (dC : Nat → ClassId) (dI : Nat → Nat → Nat) (h0 : Nat) (v_buffer : Value) (v_fetched : Value) (v_compared : Value) (v_maker : Value) (v_writer : Value) (i_madeDocuments : Int32) (i_fetchedSteps : Int32) (hp : Nat) (p_i_going : Int32) (p_i_writesLeft : Int32) (hd : Nat) (cD : ClassId) (fD : Nat → Option Nat) (hdo : Nat) (hra : Nat) (cR : ClassId) (df : Nat) (dn : Nat) (fr : Nat → Option Nat) (hv : Nat) (hpi : Nat) (cB : ClassId) (np : Nat) (fp : Nat → Int32) (au : Int32) (sm : Int32) (a1 : Int32) (a2 : Int32) (a3 : Int32) (hdS : atN 8 fD a1 = some hdo) (hdn : dn ≤ 64) (hkS : atN dn fr a2 = some hv) (hx9 : a3 < 0 ∨ nI np ≤ a3) : Met l y_K_pieceByte k_K_pieceByte ({ frames := 2, cells := 0, slots := 0, locals := 44 } : Room) (va_Pc [.ref h0, .int a1, .int a2, .int a3] (pc_R (dC, dI) [(h0, .inr (0, [.ref hd, v_buffer, v_fetched, v_compared, v_maker, v_writer, .ref hp, .int i_madeDocuments, .int i_fetchedSteps])), (hp, .inr (4, [.int 0, .int p_i_going, .int p_i_writesLeft])), (hd, .inl (cD, 8, .inr (.inr (.inr (.inr (fD)))))), (hdo, .inr (5, [.ref hra, .int (nI df), .int (nI dn)])), (hra, .inl (cR, 64, .inr (.inr (.inr (.inr (fr)))))), (hv, .inr (6, [.ref hpi, .int au, .int sm])), (hpi, .inl (cB, np, .inl (fp)))] [(cD, .object R_D), (cR, .object R_V), (cB, .byte)])) (vp_Si (fun r => r = (-1))) 0 0 (fun _ => False) := by
  refine Met.ofW (cc := prog_1_method_13_code) (maxL := 5) (ret := (some .int)) (by decide) rfl ?_
  intro p e s m args below meth c s₁ B hml hv
  obtain ⟨rfl, hP, hK, hN⟩ := hv
  have hx := B.exec
  have hb := B.bytes
  have hr := B.returns
  have hts := atoms_spec (ws := k_K_pieceByte) B.pre
  have hw0 : ∀ w ∈ w0, w.before _ s = true := fun w h => hts w (List.mem_cons_of_mem _ h)
  have hown : s.vm.findClass R_K = some m.cls := findClass_of_methodNamed B.named
  have hlocks := B.notSynchronized
  have hP : va_P (dC, dI) vwCl [(h0, .inr (0, [.ref hd, v_buffer, v_fetched, v_compared, v_maker, v_writer, .ref hp, .int i_madeDocuments, .int i_fetchedSteps])), (hp, .inr (4, [.int 0, .int p_i_going, .int p_i_writesLeft])), (hd, .inl (cD, 8, .inr (.inr (.inr (.inr (fD)))))), (hdo, .inr (5, [.ref hra, .int (nI df), .int (nI dn)])), (hra, .inl (cR, 64, .inr (.inr (.inr (.inr (fr)))))), (hv, .inr (6, [.ref hpi, .int au, .int sm])), (hpi, .inl (cB, np, .inl (fp)))] s.heap := hP
  have hl := lv_entry ([.ref h0, .int a1, .int a2, .int a3]) (n := 5) (Nat.le_of_ble_eq_true rfl)
  rw [lg_entry_eq]
  generalize (lg_sl ([.ref h0, .int a1, .int a2, .int a3]) ++ List.replicate (5 - (lg_sl ([.ref h0, .int a1, .int a2, .int a3])).length) Slot.unset).toArray = ls at hl ⊢
  have hl : lv_has ls 5 [(0, .ref h0), (1, .int a1), (2, .int a2), (3, .int a3)] := hl
  refine lv_aload_n hx hb d_K_pieceByte_0 rfl (lv_at hl 0 rfl) ?_
  have hPc := hP.sub (ws' := [(h0, .inr (0, [.ref hd, v_buffer, v_fetched, v_compared, v_maker, v_writer, .ref hp, .int i_madeDocuments, .int i_fetchedSteps])), (hp, .inr (4, [.int 0, .int p_i_going, .int p_i_writesLeft]))]) [0, 1] rfl
  have hKc := hK.sub (tys' := []) [] rfl
  refine ps_v (va_runV (As := []) (rest := []) ⟨hx, hb, hml, hown, hw0⟩ (g_needPower l dC dI h0 (.ref hd) v_buffer v_fetched v_compared v_maker v_writer i_madeDocuments i_fetchedSteps hp p_i_going p_i_writesLeft) (cwV 0 hw0 (gd_Vm wm_404 wm_405 wm_406 wm_308 wm_407) rfl rfl rfl (by decide +kernel) ⟨by decide +kernel, by decide +kernel⟩) (prV_R hPc hKc hN (va_recv hKc hPc (ci := 0) (q0 := 0) rfl rfl)) rfl rfl hl.1 rfl (lv_room (Nat.le_of_ble_eq_true rfl)) d_K_pieceByte_1 ⟨by decide +kernel, by decide +kernel⟩) ?_
  refine lv_aload_n hx hb d_K_pieceByte_4 rfl (lv_at hl 0 rfl) ?_
  refine lv_iload_n hx hb d_K_pieceByte_5 rfl (lv_at hl 1 rfl) ?_
  refine lv_iload_n hx hb d_K_pieceByte_6 rfl (lv_at hl 2 rfl) ?_
  have hPc := hP.sub (ws' := [(h0, .inr (0, [.ref hd, v_buffer, v_fetched, v_compared, v_maker, v_writer, .ref hp, .int i_madeDocuments, .int i_fetchedSteps])), (hd, .inl (cD, 8, .inr (.inr (.inr (.inr ((fD))))))), (hdo, .inr (5, [.ref hra, .int (nI df), .int (nI dn)])), (hra, .inl (cR, 64, .inr (.inr (.inr (.inr ((fr)))))))]) [0, 2, 3, 4] rfl
  have hKc := hK.sub (tys' := [(cD, .object R_D), (cR, .object R_V)]) [0, 1] rfl
  refine ps_q (va_runV (As := [.int a1, .int a2]) (rest := []) ⟨hx, hb, hml, hown, hw0⟩ (g_keptR_S l dC dI h0 v_buffer v_fetched v_compared v_maker v_writer (.ref hp) i_madeDocuments i_fetchedSteps hd cD (fD) _ hra cR df dn (fr) a1 a2 hv (by first | assumption | decide | omega) (by first | assumption | decide | omega) (by first | assumption | decide | omega)) (cwV 2 hw0 (gd_Vm wm_427 wm_428 wm_429 wm_308 wm_430) rfl rfl rfl (by decide +kernel) ⟨by decide +kernel, by decide +kernel⟩) (prV_R hPc hKc hN (va_recv hKc hPc (ci := 0) (q0 := 0) rfl rfl)) rfl rfl hl.1 rfl (lv_room (Nat.le_of_ble_eq_true rfl)) d_K_pieceByte_7 ⟨by decide +kernel, by decide +kernel⟩) (fun r_1 hr_1 => ?_)
  obtain rfl : r_1 = some hv := hr_1
  refine W.eq (g2 := F0 m 10 ls [.ref hv]) rfl ?_
  refine lv_astore (lv' := [(4, .ref hv), (0, .ref h0), (1, .int a1), (2, .int a2), (3, .int a3)]) hx hb d_K_pieceByte_10 hl (by decide) rfl (fun ls hl => ?_)
  refine lv_aload hx hb d_K_pieceByte_12 (lv_at hl 0 rfl) ?_
  refine lv_ifnull hx hb d_K_pieceByte_14 ?_
  refine lv_aload hx hb d_K_pieceByte_17 (lv_at hl 0 rfl) ?_
  refine lv_iload_n hx hb d_K_pieceByte_19 rfl (lv_at hl 4 rfl) ?_
  have hPc := hP.sub (ws' := [(hv, .inr (6, [.ref hpi, .int au, .int sm])), (hpi, .inl (cB, np, .inl ((fp))))]) [5, 6] rfl
  have hKc := hK.sub (tys' := [(cB, .byte)]) [2] rfl
  refine ps_i (va_runV (As := [.int a3]) (rest := []) ⟨hx, hb, hml, hown, hw0⟩ (g_hasByte_F l dC dI hv hpi cB np (fp) au sm a3 (by first | assumption | decide | omega)) (cwV 1 hw0 (gd_Vm wm_431 wm_432 wm_433 wm_434 wm_435) rfl rfl rfl (by decide +kernel) ⟨by decide +kernel, by decide +kernel⟩) (prV_R hPc hKc hN (va_recv hKc hPc (ci := 6) (q0 := 0) rfl rfl)) rfl rfl hl.1 rfl (lv_room (Nat.le_of_ble_eq_true rfl)) d_K_pieceByte_20 ⟨by decide +kernel, by decide +kernel⟩) (fun r_2 hr_2 => ?_)
  obtain rfl : r_2 = 0 := hr_2
  refine lv_if_ne (tgt := 28) hx hb d_K_pieceByte_23 (by decide) (fun h9 => absurd h9 (by decide +kernel)) (fun _ => ?_)
  refine lv_iconst (v := (-1)) hx hb d_K_pieceByte_26 (by decide) ?_
  exact W.iret (v := (-1)) hx hb hr (fun t ht hW => ⟨(-1), rfl, rfl, ht⟩) (fun q h => by cases h) d_K_pieceByte_27
set_option maxHeartbeats 4000000 in
set_option maxRecDepth 100000 in
theorem g_pieceByte_T (l : Launch) (dC : Nat → ClassId) (dI : Nat → Nat → Nat) (h0 : Nat) (v_buffer : Value) (v_fetched : Value) (v_compared : Value) (v_maker : Value) (v_writer : Value) (i_madeDocuments : Int32) (i_fetchedSteps : Int32) (hp : Nat) (p_i_going : Int32) (p_i_writesLeft : Int32) (hd : Nat) (cD : ClassId) (fD : Nat → Option Nat) (hdo : Nat) (hra : Nat) (cR : ClassId) (df : Nat) (dn : Nat) (fr : Nat → Option Nat) (hv : Nat) (hpi : Nat) (cB : ClassId) (np : Nat) (fp : Nat → Int32) (au : Int32) (sm : Int32) (a1 : Int32) (a2 : Int32) (x : Nat) (hdS : atN 8 fD a1 = some hdo) (hdn : dn ≤ 64) (hkS : atN dn fr a2 = some hv) (hx9 : x < np) (hnp : np ≤ 1024) : Met l y_K_pieceByte k_K_pieceByte ({ frames := 2, cells := 0, slots := 0, locals := 44 } : Room) (va_Pc [.ref h0, .int a1, .int a2, .int (nI x)] (pc_R (dC, dI) [(h0, .inr (0, [.ref hd, v_buffer, v_fetched, v_compared, v_maker, v_writer, .ref hp, .int i_madeDocuments, .int i_fetchedSteps])), (hp, .inr (4, [.int 0, .int p_i_going, .int p_i_writesLeft])), (hd, .inl (cD, 8, .inr (.inr (.inr (.inr (fD)))))), (hdo, .inr (5, [.ref hra, .int (nI df), .int (nI dn)])), (hra, .inl (cR, 64, .inr (.inr (.inr (.inr (fr)))))), (hv, .inr (6, [.ref hpi, .int au, .int sm])), (hpi, .inl (cB, np, .inl (fp)))] [(cD, .object R_D), (cR, .object R_V), (cB, .byte)])) (vp_Si (fun r => r = fp x &&& 255)) 0 0 (fun _ => False) := by
  refine Met.ofW (cc := prog_1_method_13_code) (maxL := 5) (ret := (some .int)) (by decide) rfl ?_
  intro p e s m args below meth c s₁ B hml hv
  obtain ⟨rfl, hP, hK, hN⟩ := hv
  have hx := B.exec
  have hb := B.bytes
  have hr := B.returns
  have hts := atoms_spec (ws := k_K_pieceByte) B.pre
  have hw0 : ∀ w ∈ w0, w.before _ s = true := fun w h => hts w (List.mem_cons_of_mem _ h)
  have hown : s.vm.findClass R_K = some m.cls := findClass_of_methodNamed B.named
  have hlocks := B.notSynchronized
  have hP : va_P (dC, dI) vwCl [(h0, .inr (0, [.ref hd, v_buffer, v_fetched, v_compared, v_maker, v_writer, .ref hp, .int i_madeDocuments, .int i_fetchedSteps])), (hp, .inr (4, [.int 0, .int p_i_going, .int p_i_writesLeft])), (hd, .inl (cD, 8, .inr (.inr (.inr (.inr (fD)))))), (hdo, .inr (5, [.ref hra, .int (nI df), .int (nI dn)])), (hra, .inl (cR, 64, .inr (.inr (.inr (.inr (fr)))))), (hv, .inr (6, [.ref hpi, .int au, .int sm])), (hpi, .inl (cB, np, .inl (fp)))] s.heap := hP
  have hl := lv_entry ([.ref h0, .int a1, .int a2, .int (nI x)]) (n := 5) (Nat.le_of_ble_eq_true rfl)
  rw [lg_entry_eq]
  generalize (lg_sl ([.ref h0, .int a1, .int a2, .int (nI x)]) ++ List.replicate (5 - (lg_sl ([.ref h0, .int a1, .int a2, .int (nI x)])).length) Slot.unset).toArray = ls at hl ⊢
  have hl : lv_has ls 5 [(0, .ref h0), (1, .int a1), (2, .int a2), (3, .int (nI x))] := hl
  refine lv_aload_n hx hb d_K_pieceByte_0 rfl (lv_at hl 0 rfl) ?_
  have hPc := hP.sub (ws' := [(h0, .inr (0, [.ref hd, v_buffer, v_fetched, v_compared, v_maker, v_writer, .ref hp, .int i_madeDocuments, .int i_fetchedSteps])), (hp, .inr (4, [.int 0, .int p_i_going, .int p_i_writesLeft]))]) [0, 1] rfl
  have hKc := hK.sub (tys' := []) [] rfl
  refine ps_v (va_runV (As := []) (rest := []) ⟨hx, hb, hml, hown, hw0⟩ (g_needPower l dC dI h0 (.ref hd) v_buffer v_fetched v_compared v_maker v_writer i_madeDocuments i_fetchedSteps hp p_i_going p_i_writesLeft) (cwV 0 hw0 (gd_Vm wm_404 wm_405 wm_406 wm_308 wm_407) rfl rfl rfl (by decide +kernel) ⟨by decide +kernel, by decide +kernel⟩) (prV_R hPc hKc hN (va_recv hKc hPc (ci := 0) (q0 := 0) rfl rfl)) rfl rfl hl.1 rfl (lv_room (Nat.le_of_ble_eq_true rfl)) d_K_pieceByte_1 ⟨by decide +kernel, by decide +kernel⟩) ?_
  refine lv_aload_n hx hb d_K_pieceByte_4 rfl (lv_at hl 0 rfl) ?_
  refine lv_iload_n hx hb d_K_pieceByte_5 rfl (lv_at hl 1 rfl) ?_
  refine lv_iload_n hx hb d_K_pieceByte_6 rfl (lv_at hl 2 rfl) ?_
  have hPc := hP.sub (ws' := [(h0, .inr (0, [.ref hd, v_buffer, v_fetched, v_compared, v_maker, v_writer, .ref hp, .int i_madeDocuments, .int i_fetchedSteps])), (hd, .inl (cD, 8, .inr (.inr (.inr (.inr ((fD))))))), (hdo, .inr (5, [.ref hra, .int (nI df), .int (nI dn)])), (hra, .inl (cR, 64, .inr (.inr (.inr (.inr ((fr)))))))]) [0, 2, 3, 4] rfl
  have hKc := hK.sub (tys' := [(cD, .object R_D), (cR, .object R_V)]) [0, 1] rfl
  refine ps_q (va_runV (As := [.int a1, .int a2]) (rest := []) ⟨hx, hb, hml, hown, hw0⟩ (g_keptR_S l dC dI h0 v_buffer v_fetched v_compared v_maker v_writer (.ref hp) i_madeDocuments i_fetchedSteps hd cD (fD) _ hra cR df dn (fr) a1 a2 hv (by first | assumption | decide | omega) (by first | assumption | decide | omega) (by first | assumption | decide | omega)) (cwV 2 hw0 (gd_Vm wm_427 wm_428 wm_429 wm_308 wm_430) rfl rfl rfl (by decide +kernel) ⟨by decide +kernel, by decide +kernel⟩) (prV_R hPc hKc hN (va_recv hKc hPc (ci := 0) (q0 := 0) rfl rfl)) rfl rfl hl.1 rfl (lv_room (Nat.le_of_ble_eq_true rfl)) d_K_pieceByte_7 ⟨by decide +kernel, by decide +kernel⟩) (fun r_1 hr_1 => ?_)
  obtain rfl : r_1 = some hv := hr_1
  refine W.eq (g2 := F0 m 10 ls [.ref hv]) rfl ?_
  refine lv_astore (lv' := [(4, .ref hv), (0, .ref h0), (1, .int a1), (2, .int a2), (3, .int (nI x))]) hx hb d_K_pieceByte_10 hl (by decide) rfl (fun ls hl => ?_)
  refine lv_aload hx hb d_K_pieceByte_12 (lv_at hl 0 rfl) ?_
  refine lv_ifnull hx hb d_K_pieceByte_14 ?_
  refine lv_aload hx hb d_K_pieceByte_17 (lv_at hl 0 rfl) ?_
  refine lv_iload_n hx hb d_K_pieceByte_19 rfl (lv_at hl 4 rfl) ?_
  have hPc := hP.sub (ws' := [(hv, .inr (6, [.ref hpi, .int au, .int sm])), (hpi, .inl (cB, np, .inl ((fp))))]) [5, 6] rfl
  have hKc := hK.sub (tys' := [(cB, .byte)]) [2] rfl
  refine ps_i (va_runV (As := [.int (nI x)]) (rest := []) ⟨hx, hb, hml, hown, hw0⟩ (g_hasByte_T l dC dI hv hpi cB np (fp) au sm x (by first | assumption | decide | omega) (by first | assumption | decide | omega)) (cwV 1 hw0 (gd_Vm wm_431 wm_432 wm_433 wm_434 wm_435) rfl rfl rfl (by decide +kernel) ⟨by decide +kernel, by decide +kernel⟩) (prV_R hPc hKc hN (va_recv hKc hPc (ci := 6) (q0 := 0) rfl rfl)) rfl rfl hl.1 rfl (lv_room (Nat.le_of_ble_eq_true rfl)) d_K_pieceByte_20 ⟨by decide +kernel, by decide +kernel⟩) (fun r_2 hr_2 => ?_)
  obtain rfl : r_2 = 1 := hr_2
  refine lv_if_ne (tgt := 28) hx hb d_K_pieceByte_23 (by decide) (fun _ => ?_) (fun h9 => absurd h9 (by decide +kernel))
  refine lv_aload hx hb d_K_pieceByte_28 (lv_at hl 0 rfl) ?_
  refine va_getN (D := (dC, dI)) (ci := 6) (v := .ref hpi) (C := R_V) (T := F_V) (N := 3) hx hb hw0 in_V hown hK hP 5 rfl rfl 0 (by decide) (va_Nw.use rfl (hN.1 (.fieldLinkNest R_K 153 "TextKeeper$Revision" "piece" "[B" "TextKeeper") (List.mem_of_getElem? (i := 14) rfl))) (fun _ h9 => h9) rfl d_K_pieceByte_30 ?_
  refine lv_iload_n hx hb d_K_pieceByte_33 rfl (lv_at hl 4 rfl) ?_
  refine va_bald hx hb hK hP 6 2 rfl rfl (vp_in_nI hx9 (by omega)) d_K_pieceByte_34 ?_
  refine lv_topi (fun x_3 ex_3 => ?_)
  refine lv_sipush (v := 255) hx hb d_K_pieceByte_35 (by decide +kernel) ?_
  refine lv_iand hx hb d_K_pieceByte_38 ?_
  refine lv_topi (fun x_4 ex_4 => ?_)
  exact W.iret (v := x_4) hx hb hr (fun t ht hW => ⟨x_4, rfl, (by rw [ex_4, ex_3, nI_clamp (by omega)]), ht⟩) (fun q h => by cases h) d_K_pieceByte_39
set_option maxHeartbeats 4000000 in
set_option maxRecDepth 100000 in
theorem g_damage_D (l : Launch) (dC : Nat → ClassId) (dI : Nat → Nat → Nat) (h0 : Nat) (v_buffer : Value) (v_fetched : Value) (v_compared : Value) (v_maker : Value) (v_writer : Value) (i_madeDocuments : Int32) (i_fetchedSteps : Int32) (hp : Nat) (p_i_going : Int32) (p_i_writesLeft : Int32) (hd : Nat) (cD : ClassId) (fD : Nat → Option Nat) (a1 : Int32) (a2 : Int32) (a3 : Int32) (a4 : Int32) (hdN : atN 8 fD a1 = none) : Met l y_K_damage k_K_damage ({ frames := 2, cells := 0, slots := 0, locals := 44 } : Room) (va_Pc [.ref h0, .int a1, .int a2, .int a3, .int a4] (pc_R (dC, dI) [(h0, .inr (0, [.ref hd, v_buffer, v_fetched, v_compared, v_maker, v_writer, .ref hp, .int i_madeDocuments, .int i_fetchedSteps])), (hp, .inr (4, [.int 0, .int p_i_going, .int p_i_writesLeft])), (hd, .inl (cD, 8, .inr (.inr (.inr (.inr (fD))))))] [(cD, .object R_D)])) (vp_Si (fun r => r = 0)) 0 0 (fun _ => False) := by
  refine Met.ofW (cc := prog_1_method_14_code) (maxL := 6) (ret := (some .boolean)) (by decide) rfl ?_
  intro p e s m args below meth c s₁ B hml hv
  obtain ⟨rfl, hP, hK, hN⟩ := hv
  have hx := B.exec
  have hb := B.bytes
  have hr := B.returns
  have hts := atoms_spec (ws := k_K_damage) B.pre
  have hw0 : ∀ w ∈ w0, w.before _ s = true := fun w h => hts w (List.mem_cons_of_mem _ h)
  have hown : s.vm.findClass R_K = some m.cls := findClass_of_methodNamed B.named
  have hlocks := B.notSynchronized
  have hP : va_P (dC, dI) vwCl [(h0, .inr (0, [.ref hd, v_buffer, v_fetched, v_compared, v_maker, v_writer, .ref hp, .int i_madeDocuments, .int i_fetchedSteps])), (hp, .inr (4, [.int 0, .int p_i_going, .int p_i_writesLeft])), (hd, .inl (cD, 8, .inr (.inr (.inr (.inr (fD))))))] s.heap := hP
  have hl := lv_entry ([.ref h0, .int a1, .int a2, .int a3, .int a4]) (n := 6) (Nat.le_of_ble_eq_true rfl)
  rw [lg_entry_eq]
  generalize (lg_sl ([.ref h0, .int a1, .int a2, .int a3, .int a4]) ++ List.replicate (6 - (lg_sl ([.ref h0, .int a1, .int a2, .int a3, .int a4])).length) Slot.unset).toArray = ls at hl ⊢
  have hl : lv_has ls 6 [(0, .ref h0), (1, .int a1), (2, .int a2), (3, .int a3), (4, .int a4)] := hl
  refine lv_aload_n hx hb d_K_damage_0 rfl (lv_at hl 0 rfl) ?_
  have hPc := hP.sub (ws' := [(h0, .inr (0, [.ref hd, v_buffer, v_fetched, v_compared, v_maker, v_writer, .ref hp, .int i_madeDocuments, .int i_fetchedSteps])), (hp, .inr (4, [.int 0, .int p_i_going, .int p_i_writesLeft]))]) [0, 1] rfl
  have hKc := hK.sub (tys' := []) [] rfl
  refine ps_v (va_runV (As := []) (rest := []) ⟨hx, hb, hml, hown, hw0⟩ (g_needPower l dC dI h0 (.ref hd) v_buffer v_fetched v_compared v_maker v_writer i_madeDocuments i_fetchedSteps hp p_i_going p_i_writesLeft) (cwV 0 hw0 (gd_Vm wm_404 wm_405 wm_406 wm_308 wm_407) rfl rfl rfl (by decide +kernel) ⟨by decide +kernel, by decide +kernel⟩) (prV_R hPc hKc hN (va_recv hKc hPc (ci := 0) (q0 := 0) rfl rfl)) rfl rfl hl.1 rfl (lv_room (Nat.le_of_ble_eq_true rfl)) d_K_damage_1 ⟨by decide +kernel, by decide +kernel⟩) ?_
  refine lv_aload_n hx hb d_K_damage_4 rfl (lv_at hl 0 rfl) ?_
  refine lv_iload_n hx hb d_K_damage_5 rfl (lv_at hl 1 rfl) ?_
  refine lv_iload_n hx hb d_K_damage_6 rfl (lv_at hl 2 rfl) ?_
  have hPc := hP.sub (ws' := [(h0, .inr (0, [.ref hd, v_buffer, v_fetched, v_compared, v_maker, v_writer, .ref hp, .int i_madeDocuments, .int i_fetchedSteps])), (hd, .inl (cD, 8, .inr (.inr (.inr (.inr ((fD)))))))]) [0, 2] rfl
  have hKc := hK.sub (tys' := [(cD, .object R_D)]) [0] rfl
  refine ps_q (va_runV (As := [.int a1, .int a2]) (rest := []) ⟨hx, hb, hml, hown, hw0⟩ (g_keptR_D l dC dI h0 v_buffer v_fetched v_compared v_maker v_writer (.ref hp) i_madeDocuments i_fetchedSteps hd cD (fD) a1 a2 (by first | assumption | decide | omega)) (cwV 2 hw0 (gd_Vm wm_427 wm_428 wm_429 wm_308 wm_430) rfl rfl rfl (by decide +kernel) ⟨by decide +kernel, by decide +kernel⟩) (prV_R hPc hKc hN (va_recv hKc hPc (ci := 0) (q0 := 0) rfl rfl)) rfl rfl hl.1 rfl (lv_room (Nat.le_of_ble_eq_true rfl)) d_K_damage_7 ⟨by decide +kernel, by decide +kernel⟩) (fun r_1 hr_1 => ?_)
  obtain rfl : r_1 = none := hr_1
  refine W.eq (g2 := F0 m 10 ls [.null]) rfl ?_
  refine lv_astoreN (lv' := [(5, .null), (0, .ref h0), (1, .int a1), (2, .int a2), (3, .int a3), (4, .int a4)]) hx hb d_K_damage_10 hl (by decide) rfl (fun ls hl => ?_)
  refine lv_aloadN hx hb d_K_damage_12 (lv_at hl 0 rfl) ?_
  refine lv_ifnullN (tgt := 26) hx hb d_K_damage_14 (by decide) ?_
  refine lv_iconst (v := 0) hx hb d_K_damage_26 (by decide) ?_
  exact W.zret (v := 0) (ty := .boolean) hx hb hr rfl (fun t ht hW => ⟨0, rfl, rfl, ht⟩) (fun q h => by cases h) d_K_damage_27
set_option maxHeartbeats 4000000 in
set_option maxRecDepth 100000 in
theorem g_damage_N (l : Launch) (dC : Nat → ClassId) (dI : Nat → Nat → Nat) (h0 : Nat) (v_buffer : Value) (v_fetched : Value) (v_compared : Value) (v_maker : Value) (v_writer : Value) (i_madeDocuments : Int32) (i_fetchedSteps : Int32) (hp : Nat) (p_i_going : Int32) (p_i_writesLeft : Int32) (hd : Nat) (cD : ClassId) (fD : Nat → Option Nat) (hdo : Nat) (hra : Nat) (cR : ClassId) (df : Nat) (dn : Nat) (fr : Nat → Option Nat) (a1 : Int32) (a2 : Int32) (a3 : Int32) (a4 : Int32) (hdS : atN 8 fD a1 = some hdo) (hdn : dn ≤ 64) (hkN : atN dn fr a2 = none) : Met l y_K_damage k_K_damage ({ frames := 2, cells := 0, slots := 0, locals := 44 } : Room) (va_Pc [.ref h0, .int a1, .int a2, .int a3, .int a4] (pc_R (dC, dI) [(h0, .inr (0, [.ref hd, v_buffer, v_fetched, v_compared, v_maker, v_writer, .ref hp, .int i_madeDocuments, .int i_fetchedSteps])), (hp, .inr (4, [.int 0, .int p_i_going, .int p_i_writesLeft])), (hd, .inl (cD, 8, .inr (.inr (.inr (.inr (fD)))))), (hdo, .inr (5, [.ref hra, .int (nI df), .int (nI dn)])), (hra, .inl (cR, 64, .inr (.inr (.inr (.inr (fr))))))] [(cD, .object R_D), (cR, .object R_V)])) (vp_Si (fun r => r = 0)) 0 0 (fun _ => False) := by
  refine Met.ofW (cc := prog_1_method_14_code) (maxL := 6) (ret := (some .boolean)) (by decide) rfl ?_
  intro p e s m args below meth c s₁ B hml hv
  obtain ⟨rfl, hP, hK, hN⟩ := hv
  have hx := B.exec
  have hb := B.bytes
  have hr := B.returns
  have hts := atoms_spec (ws := k_K_damage) B.pre
  have hw0 : ∀ w ∈ w0, w.before _ s = true := fun w h => hts w (List.mem_cons_of_mem _ h)
  have hown : s.vm.findClass R_K = some m.cls := findClass_of_methodNamed B.named
  have hlocks := B.notSynchronized
  have hP : va_P (dC, dI) vwCl [(h0, .inr (0, [.ref hd, v_buffer, v_fetched, v_compared, v_maker, v_writer, .ref hp, .int i_madeDocuments, .int i_fetchedSteps])), (hp, .inr (4, [.int 0, .int p_i_going, .int p_i_writesLeft])), (hd, .inl (cD, 8, .inr (.inr (.inr (.inr (fD)))))), (hdo, .inr (5, [.ref hra, .int (nI df), .int (nI dn)])), (hra, .inl (cR, 64, .inr (.inr (.inr (.inr (fr))))))] s.heap := hP
  have hl := lv_entry ([.ref h0, .int a1, .int a2, .int a3, .int a4]) (n := 6) (Nat.le_of_ble_eq_true rfl)
  rw [lg_entry_eq]
  generalize (lg_sl ([.ref h0, .int a1, .int a2, .int a3, .int a4]) ++ List.replicate (6 - (lg_sl ([.ref h0, .int a1, .int a2, .int a3, .int a4])).length) Slot.unset).toArray = ls at hl ⊢
  have hl : lv_has ls 6 [(0, .ref h0), (1, .int a1), (2, .int a2), (3, .int a3), (4, .int a4)] := hl
  refine lv_aload_n hx hb d_K_damage_0 rfl (lv_at hl 0 rfl) ?_
  have hPc := hP.sub (ws' := [(h0, .inr (0, [.ref hd, v_buffer, v_fetched, v_compared, v_maker, v_writer, .ref hp, .int i_madeDocuments, .int i_fetchedSteps])), (hp, .inr (4, [.int 0, .int p_i_going, .int p_i_writesLeft]))]) [0, 1] rfl
  have hKc := hK.sub (tys' := []) [] rfl
  refine ps_v (va_runV (As := []) (rest := []) ⟨hx, hb, hml, hown, hw0⟩ (g_needPower l dC dI h0 (.ref hd) v_buffer v_fetched v_compared v_maker v_writer i_madeDocuments i_fetchedSteps hp p_i_going p_i_writesLeft) (cwV 0 hw0 (gd_Vm wm_404 wm_405 wm_406 wm_308 wm_407) rfl rfl rfl (by decide +kernel) ⟨by decide +kernel, by decide +kernel⟩) (prV_R hPc hKc hN (va_recv hKc hPc (ci := 0) (q0 := 0) rfl rfl)) rfl rfl hl.1 rfl (lv_room (Nat.le_of_ble_eq_true rfl)) d_K_damage_1 ⟨by decide +kernel, by decide +kernel⟩) ?_
  refine lv_aload_n hx hb d_K_damage_4 rfl (lv_at hl 0 rfl) ?_
  refine lv_iload_n hx hb d_K_damage_5 rfl (lv_at hl 1 rfl) ?_
  refine lv_iload_n hx hb d_K_damage_6 rfl (lv_at hl 2 rfl) ?_
  have hPc := hP.sub (ws' := [(h0, .inr (0, [.ref hd, v_buffer, v_fetched, v_compared, v_maker, v_writer, .ref hp, .int i_madeDocuments, .int i_fetchedSteps])), (hd, .inl (cD, 8, .inr (.inr (.inr (.inr ((fD))))))), (hdo, .inr (5, [.ref hra, .int (nI df), .int (nI dn)])), (hra, .inl (cR, 64, .inr (.inr (.inr (.inr ((fr)))))))]) [0, 2, 3, 4] rfl
  have hKc := hK.sub (tys' := [(cD, .object R_D), (cR, .object R_V)]) [0, 1] rfl
  refine ps_q (va_runV (As := [.int a1, .int a2]) (rest := []) ⟨hx, hb, hml, hown, hw0⟩ (g_keptR_N l dC dI h0 v_buffer v_fetched v_compared v_maker v_writer (.ref hp) i_madeDocuments i_fetchedSteps hd cD (fD) _ hra cR df dn (fr) a1 a2 (by first | assumption | decide | omega) (by first | assumption | decide | omega) (by first | assumption | decide | omega)) (cwV 2 hw0 (gd_Vm wm_427 wm_428 wm_429 wm_308 wm_430) rfl rfl rfl (by decide +kernel) ⟨by decide +kernel, by decide +kernel⟩) (prV_R hPc hKc hN (va_recv hKc hPc (ci := 0) (q0 := 0) rfl rfl)) rfl rfl hl.1 rfl (lv_room (Nat.le_of_ble_eq_true rfl)) d_K_damage_7 ⟨by decide +kernel, by decide +kernel⟩) (fun r_1 hr_1 => ?_)
  obtain rfl : r_1 = none := hr_1
  refine W.eq (g2 := F0 m 10 ls [.null]) rfl ?_
  refine lv_astoreN (lv' := [(5, .null), (0, .ref h0), (1, .int a1), (2, .int a2), (3, .int a3), (4, .int a4)]) hx hb d_K_damage_10 hl (by decide) rfl (fun ls hl => ?_)
  refine lv_aloadN hx hb d_K_damage_12 (lv_at hl 0 rfl) ?_
  refine lv_ifnullN (tgt := 26) hx hb d_K_damage_14 (by decide) ?_
  refine lv_iconst (v := 0) hx hb d_K_damage_26 (by decide) ?_
  exact W.zret (v := 0) (ty := .boolean) hx hb hr rfl (fun t ht hW => ⟨0, rfl, rfl, ht⟩) (fun q h => by cases h) d_K_damage_27
set_option maxHeartbeats 4000000 in
set_option maxRecDepth 100000 in
theorem g_damage_F (l : Launch) (dC : Nat → ClassId) (dI : Nat → Nat → Nat) (h0 : Nat) (v_buffer : Value) (v_fetched : Value) (v_compared : Value) (v_maker : Value) (v_writer : Value) (i_madeDocuments : Int32) (i_fetchedSteps : Int32) (hp : Nat) (p_i_going : Int32) (p_i_writesLeft : Int32) (hd : Nat) (cD : ClassId) (fD : Nat → Option Nat) (hdo : Nat) (hra : Nat) (cR : ClassId) (df : Nat) (dn : Nat) (fr : Nat → Option Nat) (hv : Nat) (hpi : Nat) (cB : ClassId) (np : Nat) (fp : Nat → Int32) (au : Int32) (sm : Int32) (a1 : Int32) (a2 : Int32) (a3 : Int32) (a4 : Int32) (hdS : atN 8 fD a1 = some hdo) (hdn : dn ≤ 64) (hkS : atN dn fr a2 = some hv) (hx9 : a3 < 0 ∨ nI np ≤ a3) : Met l y_K_damage k_K_damage ({ frames := 2, cells := 0, slots := 0, locals := 44 } : Room) (va_Pc [.ref h0, .int a1, .int a2, .int a3, .int a4] (pc_R (dC, dI) [(h0, .inr (0, [.ref hd, v_buffer, v_fetched, v_compared, v_maker, v_writer, .ref hp, .int i_madeDocuments, .int i_fetchedSteps])), (hp, .inr (4, [.int 0, .int p_i_going, .int p_i_writesLeft])), (hd, .inl (cD, 8, .inr (.inr (.inr (.inr (fD)))))), (hdo, .inr (5, [.ref hra, .int (nI df), .int (nI dn)])), (hra, .inl (cR, 64, .inr (.inr (.inr (.inr (fr)))))), (hv, .inr (6, [.ref hpi, .int au, .int sm])), (hpi, .inl (cB, np, .inl (fp)))] [(cD, .object R_D), (cR, .object R_V), (cB, .byte)])) (vp_Si (fun r => r = 0)) 0 0 (fun _ => False) := by
  refine Met.ofW (cc := prog_1_method_14_code) (maxL := 6) (ret := (some .boolean)) (by decide) rfl ?_
  intro p e s m args below meth c s₁ B hml hv
  obtain ⟨rfl, hP, hK, hN⟩ := hv
  have hx := B.exec
  have hb := B.bytes
  have hr := B.returns
  have hts := atoms_spec (ws := k_K_damage) B.pre
  have hw0 : ∀ w ∈ w0, w.before _ s = true := fun w h => hts w (List.mem_cons_of_mem _ h)
  have hown : s.vm.findClass R_K = some m.cls := findClass_of_methodNamed B.named
  have hlocks := B.notSynchronized
  have hP : va_P (dC, dI) vwCl [(h0, .inr (0, [.ref hd, v_buffer, v_fetched, v_compared, v_maker, v_writer, .ref hp, .int i_madeDocuments, .int i_fetchedSteps])), (hp, .inr (4, [.int 0, .int p_i_going, .int p_i_writesLeft])), (hd, .inl (cD, 8, .inr (.inr (.inr (.inr (fD)))))), (hdo, .inr (5, [.ref hra, .int (nI df), .int (nI dn)])), (hra, .inl (cR, 64, .inr (.inr (.inr (.inr (fr)))))), (hv, .inr (6, [.ref hpi, .int au, .int sm])), (hpi, .inl (cB, np, .inl (fp)))] s.heap := hP
  have hl := lv_entry ([.ref h0, .int a1, .int a2, .int a3, .int a4]) (n := 6) (Nat.le_of_ble_eq_true rfl)
  rw [lg_entry_eq]
  generalize (lg_sl ([.ref h0, .int a1, .int a2, .int a3, .int a4]) ++ List.replicate (6 - (lg_sl ([.ref h0, .int a1, .int a2, .int a3, .int a4])).length) Slot.unset).toArray = ls at hl ⊢
  have hl : lv_has ls 6 [(0, .ref h0), (1, .int a1), (2, .int a2), (3, .int a3), (4, .int a4)] := hl
  refine lv_aload_n hx hb d_K_damage_0 rfl (lv_at hl 0 rfl) ?_
  have hPc := hP.sub (ws' := [(h0, .inr (0, [.ref hd, v_buffer, v_fetched, v_compared, v_maker, v_writer, .ref hp, .int i_madeDocuments, .int i_fetchedSteps])), (hp, .inr (4, [.int 0, .int p_i_going, .int p_i_writesLeft]))]) [0, 1] rfl
  have hKc := hK.sub (tys' := []) [] rfl
  refine ps_v (va_runV (As := []) (rest := []) ⟨hx, hb, hml, hown, hw0⟩ (g_needPower l dC dI h0 (.ref hd) v_buffer v_fetched v_compared v_maker v_writer i_madeDocuments i_fetchedSteps hp p_i_going p_i_writesLeft) (cwV 0 hw0 (gd_Vm wm_404 wm_405 wm_406 wm_308 wm_407) rfl rfl rfl (by decide +kernel) ⟨by decide +kernel, by decide +kernel⟩) (prV_R hPc hKc hN (va_recv hKc hPc (ci := 0) (q0 := 0) rfl rfl)) rfl rfl hl.1 rfl (lv_room (Nat.le_of_ble_eq_true rfl)) d_K_damage_1 ⟨by decide +kernel, by decide +kernel⟩) ?_
  refine lv_aload_n hx hb d_K_damage_4 rfl (lv_at hl 0 rfl) ?_
  refine lv_iload_n hx hb d_K_damage_5 rfl (lv_at hl 1 rfl) ?_
  refine lv_iload_n hx hb d_K_damage_6 rfl (lv_at hl 2 rfl) ?_
  have hPc := hP.sub (ws' := [(h0, .inr (0, [.ref hd, v_buffer, v_fetched, v_compared, v_maker, v_writer, .ref hp, .int i_madeDocuments, .int i_fetchedSteps])), (hd, .inl (cD, 8, .inr (.inr (.inr (.inr ((fD))))))), (hdo, .inr (5, [.ref hra, .int (nI df), .int (nI dn)])), (hra, .inl (cR, 64, .inr (.inr (.inr (.inr ((fr)))))))]) [0, 2, 3, 4] rfl
  have hKc := hK.sub (tys' := [(cD, .object R_D), (cR, .object R_V)]) [0, 1] rfl
  refine ps_q (va_runV (As := [.int a1, .int a2]) (rest := []) ⟨hx, hb, hml, hown, hw0⟩ (g_keptR_S l dC dI h0 v_buffer v_fetched v_compared v_maker v_writer (.ref hp) i_madeDocuments i_fetchedSteps hd cD (fD) _ hra cR df dn (fr) a1 a2 hv (by first | assumption | decide | omega) (by first | assumption | decide | omega) (by first | assumption | decide | omega)) (cwV 2 hw0 (gd_Vm wm_427 wm_428 wm_429 wm_308 wm_430) rfl rfl rfl (by decide +kernel) ⟨by decide +kernel, by decide +kernel⟩) (prV_R hPc hKc hN (va_recv hKc hPc (ci := 0) (q0 := 0) rfl rfl)) rfl rfl hl.1 rfl (lv_room (Nat.le_of_ble_eq_true rfl)) d_K_damage_7 ⟨by decide +kernel, by decide +kernel⟩) (fun r_1 hr_1 => ?_)
  obtain rfl : r_1 = some hv := hr_1
  refine W.eq (g2 := F0 m 10 ls [.ref hv]) rfl ?_
  refine lv_astore (lv' := [(5, .ref hv), (0, .ref h0), (1, .int a1), (2, .int a2), (3, .int a3), (4, .int a4)]) hx hb d_K_damage_10 hl (by decide) rfl (fun ls hl => ?_)
  refine lv_aload hx hb d_K_damage_12 (lv_at hl 0 rfl) ?_
  refine lv_ifnull hx hb d_K_damage_14 ?_
  refine lv_aload hx hb d_K_damage_17 (lv_at hl 0 rfl) ?_
  refine lv_iload_n hx hb d_K_damage_19 rfl (lv_at hl 4 rfl) ?_
  have hPc := hP.sub (ws' := [(hv, .inr (6, [.ref hpi, .int au, .int sm])), (hpi, .inl (cB, np, .inl ((fp))))]) [5, 6] rfl
  have hKc := hK.sub (tys' := [(cB, .byte)]) [2] rfl
  refine ps_i (va_runV (As := [.int a3]) (rest := []) ⟨hx, hb, hml, hown, hw0⟩ (g_hasByte_F l dC dI hv hpi cB np (fp) au sm a3 (by first | assumption | decide | omega)) (cwV 1 hw0 (gd_Vm wm_431 wm_432 wm_433 wm_434 wm_435) rfl rfl rfl (by decide +kernel) ⟨by decide +kernel, by decide +kernel⟩) (prV_R hPc hKc hN (va_recv hKc hPc (ci := 6) (q0 := 0) rfl rfl)) rfl rfl hl.1 rfl (lv_room (Nat.le_of_ble_eq_true rfl)) d_K_damage_20 ⟨by decide +kernel, by decide +kernel⟩) (fun r_2 hr_2 => ?_)
  obtain rfl : r_2 = 0 := hr_2
  refine lv_if_ne (tgt := 28) hx hb d_K_damage_23 (by decide) (fun h9 => absurd h9 (by decide +kernel)) (fun _ => ?_)
  refine lv_iconst (v := 0) hx hb d_K_damage_26 (by decide) ?_
  exact W.zret (v := 0) (ty := .boolean) hx hb hr rfl (fun t ht hW => ⟨0, rfl, rfl, ht⟩) (fun q h => by cases h) d_K_damage_27
set_option maxHeartbeats 4000000 in
set_option maxRecDepth 100000 in
theorem g_damage_T (l : Launch) (dC : Nat → ClassId) (dI : Nat → Nat → Nat) (sz : Nat) (h0 : Nat) (v_buffer : Value) (v_fetched : Value) (v_compared : Value) (v_maker : Value) (v_writer : Value) (i_madeDocuments : Int32) (i_fetchedSteps : Int32) (hp : Nat) (p_i_going : Int32) (p_i_writesLeft : Int32) (hd : Nat) (cD : ClassId) (fD : Nat → Option Nat) (hdo : Nat) (hra : Nat) (cR : ClassId) (df : Nat) (dn : Nat) (fr : Nat → Option Nat) (hv : Nat) (hpi : Nat) (cB : ClassId) (np : Nat) (fp : Nat → Int32) (au : Int32) (sm : Int32) (a1 : Int32) (a2 : Int32) (a4 : Int32) (x : Nat) (hdS : atN 8 fD a1 = some hdo) (hdn : dn ≤ 64) (hkS : atN dn fr a2 = some hv) (hx9 : x < np) (hnp : np ≤ 1024) : Met l y_K_damage k_K_damage ({ frames := 2, cells := 0, slots := 0, locals := 44 } : Room) (va_Pc [.ref h0, .int a1, .int a2, .int (nI x), .int a4] (pc_E (dC, dI) [(h0, .inr (0, [.ref hd, v_buffer, v_fetched, v_compared, v_maker, v_writer, .ref hp, .int i_madeDocuments, .int i_fetchedSteps])), (hp, .inr (4, [.int 0, .int p_i_going, .int p_i_writesLeft])), (hd, .inl (cD, 8, .inr (.inr (.inr (.inr (fD)))))), (hdo, .inr (5, [.ref hra, .int (nI df), .int (nI dn)])), (hra, .inl (cR, 64, .inr (.inr (.inr (.inr (fr)))))), (hv, .inr (6, [.ref hpi, .int au, .int sm])), (hpi, .inl (cB, np, .inl (fp)))] [(cD, .object R_D), (cR, .object R_V), (cB, .byte)] sz)) (va_Qi (fun (r : Int32) (_ : Unit) => r = 1) (fun (_ : Unit) t => at_E (dC, dI) (va_A [(h0, .inr (0, [.ref hd, v_buffer, v_fetched, v_compared, v_maker, v_writer, .ref hp, .int i_madeDocuments, .int i_fetchedSteps])), (hp, .inr (4, [.int 0, .int p_i_going, .int p_i_writesLeft])), (hd, .inl (cD, 8, .inr (.inr (.inr (.inr (fD)))))), (hdo, .inr (5, [.ref hra, .int (nI df), .int (nI dn)])), (hra, .inl (cR, 64, .inr (.inr (.inr (.inr (fr)))))), (hv, .inr (6, [.ref hpi, .int au, .int sm])), (hpi, .inl (cB, np, .inl (fp)))] sz) [(h0, .inr (0, [.ref hd, v_buffer, v_fetched, v_compared, v_maker, v_writer, .ref hp, .int i_madeDocuments, .int i_fetchedSteps])), (hp, .inr (4, [.int 0, .int p_i_going, .int p_i_writesLeft])), (hd, .inl (cD, 8, .inr (.inr (.inr (.inr (fD)))))), (hdo, .inr (5, [.ref hra, .int (nI df), .int (nI dn)])), (hra, .inl (cR, 64, .inr (.inr (.inr (.inr (fr)))))), (hv, .inr (6, [.ref hpi, .int au, .int sm])), (hpi, .inl (cB, np, .inl ((upd fp x (nbb (fp x ^^^ a4))))))] [(cD, .object R_D), (cR, .object R_V), (cB, .byte)] t) (va_A [(h0, .inr (0, [.ref hd, v_buffer, v_fetched, v_compared, v_maker, v_writer, .ref hp, .int i_madeDocuments, .int i_fetchedSteps])), (hp, .inr (4, [.int 0, .int p_i_going, .int p_i_writesLeft])), (hd, .inl (cD, 8, .inr (.inr (.inr (.inr (fD)))))), (hdo, .inr (5, [.ref hra, .int (nI df), .int (nI dn)])), (hra, .inl (cR, 64, .inr (.inr (.inr (.inr (fr)))))), (hv, .inr (6, [.ref hpi, .int au, .int sm])), (hpi, .inl (cB, np, .inl (fp)))] sz)) 0 0 (va_A [(h0, .inr (0, [.ref hd, v_buffer, v_fetched, v_compared, v_maker, v_writer, .ref hp, .int i_madeDocuments, .int i_fetchedSteps])), (hp, .inr (4, [.int 0, .int p_i_going, .int p_i_writesLeft])), (hd, .inl (cD, 8, .inr (.inr (.inr (.inr (fD)))))), (hdo, .inr (5, [.ref hra, .int (nI df), .int (nI dn)])), (hra, .inl (cR, 64, .inr (.inr (.inr (.inr (fr)))))), (hv, .inr (6, [.ref hpi, .int au, .int sm])), (hpi, .inl (cB, np, .inl (fp)))] sz) := by
  refine Met.ofW (cc := prog_1_method_14_code) (maxL := 6) (ret := (some .boolean)) (by decide) rfl ?_
  intro p e s m args below meth c s₁ B hml hv
  obtain ⟨rfl, hsz, hP, hK, hD0, hN⟩ := hv
  have hx := B.exec
  have hb := B.bytes
  have hr := B.returns
  have hts := atoms_spec (ws := k_K_damage) B.pre
  have hw0 : ∀ w ∈ w0, w.before _ s = true := fun w h => hts w (List.mem_cons_of_mem _ h)
  have hown : s.vm.findClass R_K = some m.cls := findClass_of_methodNamed B.named
  have hlocks := B.notSynchronized
  subst hsz
  have hD := hD0.self (sz := s.heap.size)
  generalize hAe : va_A [(h0, .inr (0, [.ref hd, v_buffer, v_fetched, v_compared, v_maker, v_writer, .ref hp, .int i_madeDocuments, .int i_fetchedSteps])), (hp, .inr (4, [.int 0, .int p_i_going, .int p_i_writesLeft])), (hd, .inl (cD, 8, .inr (.inr (.inr (.inr (fD)))))), (hdo, .inr (5, [.ref hra, .int (nI df), .int (nI dn)])), (hra, .inl (cR, 64, .inr (.inr (.inr (.inr (fr)))))), (hv, .inr (6, [.ref hpi, .int au, .int sm])), (hpi, .inl (cB, np, .inl (fp)))] s.heap.size = A at hD ⊢
  have hA : ∀ q : Nat, s.heap.size ≤ q → A q := fun q h => by rw [← hAe]; exact Or.inr h
  have hS : va_S A s.heap s.heap [] := va_S.rf
  have hP : va_P (dC, dI) vwCl [(h0, .inr (0, [.ref hd, v_buffer, v_fetched, v_compared, v_maker, v_writer, .ref hp, .int i_madeDocuments, .int i_fetchedSteps])), (hp, .inr (4, [.int 0, .int p_i_going, .int p_i_writesLeft])), (hd, .inl (cD, 8, .inr (.inr (.inr (.inr (fD)))))), (hdo, .inr (5, [.ref hra, .int (nI df), .int (nI dn)])), (hra, .inl (cR, 64, .inr (.inr (.inr (.inr (fr)))))), (hv, .inr (6, [.ref hpi, .int au, .int sm])), (hpi, .inl (cB, np, .inl (fp)))] s.heap := hP
  have hl := lv_entry ([.ref h0, .int a1, .int a2, .int (nI x), .int a4]) (n := 6) (Nat.le_of_ble_eq_true rfl)
  rw [lg_entry_eq]
  generalize (lg_sl ([.ref h0, .int a1, .int a2, .int (nI x), .int a4]) ++ List.replicate (6 - (lg_sl ([.ref h0, .int a1, .int a2, .int (nI x), .int a4])).length) Slot.unset).toArray = ls at hl ⊢
  have hl : lv_has ls 6 [(0, .ref h0), (1, .int a1), (2, .int a2), (3, .int (nI x)), (4, .int a4)] := hl
  refine lv_aload_n hx hb d_K_damage_0 rfl (lv_at hl 0 rfl) ?_
  have hPc := hP.sub (ws' := [(h0, .inr (0, [.ref hd, v_buffer, v_fetched, v_compared, v_maker, v_writer, .ref hp, .int i_madeDocuments, .int i_fetchedSteps])), (hp, .inr (4, [.int 0, .int p_i_going, .int p_i_writesLeft]))]) [0, 1] rfl
  have hKc := hK.sub (tys' := []) [] rfl
  refine ps_v (va_runV (As := []) (rest := []) ⟨hx, hb, hml, hown, hw0⟩ (g_needPower l dC dI h0 (.ref hd) v_buffer v_fetched v_compared v_maker v_writer i_madeDocuments i_fetchedSteps hp p_i_going p_i_writesLeft) (cwV 0 hw0 (gd_Vm wm_404 wm_405 wm_406 wm_308 wm_407) rfl rfl rfl (by decide +kernel) ⟨by decide +kernel, by decide +kernel⟩) (prV_R hPc hKc hN (va_recv hKc hPc (ci := 0) (q0 := 0) rfl rfl)) rfl rfl hl.1 rfl (lv_room (Nat.le_of_ble_eq_true rfl)) d_K_damage_1 ⟨by decide +kernel, by decide +kernel⟩) ?_
  refine lv_aload_n hx hb d_K_damage_4 rfl (lv_at hl 0 rfl) ?_
  refine lv_iload_n hx hb d_K_damage_5 rfl (lv_at hl 1 rfl) ?_
  refine lv_iload_n hx hb d_K_damage_6 rfl (lv_at hl 2 rfl) ?_
  have hPc := hP.sub (ws' := [(h0, .inr (0, [.ref hd, v_buffer, v_fetched, v_compared, v_maker, v_writer, .ref hp, .int i_madeDocuments, .int i_fetchedSteps])), (hd, .inl (cD, 8, .inr (.inr (.inr (.inr ((fD))))))), (hdo, .inr (5, [.ref hra, .int (nI df), .int (nI dn)])), (hra, .inl (cR, 64, .inr (.inr (.inr (.inr ((fr)))))))]) [0, 2, 3, 4] rfl
  have hKc := hK.sub (tys' := [(cD, .object R_D), (cR, .object R_V)]) [0, 1] rfl
  refine ps_q (va_runV (As := [.int a1, .int a2]) (rest := []) ⟨hx, hb, hml, hown, hw0⟩ (g_keptR_S l dC dI h0 v_buffer v_fetched v_compared v_maker v_writer (.ref hp) i_madeDocuments i_fetchedSteps hd cD (fD) _ hra cR df dn (fr) a1 a2 hv (by first | assumption | decide | omega) (by first | assumption | decide | omega) (by first | assumption | decide | omega)) (cwV 2 hw0 (gd_Vm wm_427 wm_428 wm_429 wm_308 wm_430) rfl rfl rfl (by decide +kernel) ⟨by decide +kernel, by decide +kernel⟩) (prV_R hPc hKc hN (va_recv hKc hPc (ci := 0) (q0 := 0) rfl rfl)) rfl rfl hl.1 rfl (lv_room (Nat.le_of_ble_eq_true rfl)) d_K_damage_7 ⟨by decide +kernel, by decide +kernel⟩) (fun r_1 hr_1 => ?_)
  obtain rfl : r_1 = some hv := hr_1
  refine W.eq (g2 := F0 m 10 ls [.ref hv]) rfl ?_
  refine lv_astore (lv' := [(5, .ref hv), (0, .ref h0), (1, .int a1), (2, .int a2), (3, .int (nI x)), (4, .int a4)]) hx hb d_K_damage_10 hl (by decide) rfl (fun ls hl => ?_)
  refine lv_aload hx hb d_K_damage_12 (lv_at hl 0 rfl) ?_
  refine lv_ifnull hx hb d_K_damage_14 ?_
  refine lv_aload hx hb d_K_damage_17 (lv_at hl 0 rfl) ?_
  refine lv_iload_n hx hb d_K_damage_19 rfl (lv_at hl 4 rfl) ?_
  have hPc := hP.sub (ws' := [(hv, .inr (6, [.ref hpi, .int au, .int sm])), (hpi, .inl (cB, np, .inl ((fp))))]) [5, 6] rfl
  have hKc := hK.sub (tys' := [(cB, .byte)]) [2] rfl
  refine ps_i (va_runV (As := [.int (nI x)]) (rest := []) ⟨hx, hb, hml, hown, hw0⟩ (g_hasByte_T l dC dI hv hpi cB np (fp) au sm x (by first | assumption | decide | omega) (by first | assumption | decide | omega)) (cwV 1 hw0 (gd_Vm wm_431 wm_432 wm_433 wm_434 wm_435) rfl rfl rfl (by decide +kernel) ⟨by decide +kernel, by decide +kernel⟩) (prV_R hPc hKc hN (va_recv hKc hPc (ci := 6) (q0 := 0) rfl rfl)) rfl rfl hl.1 rfl (lv_room (Nat.le_of_ble_eq_true rfl)) d_K_damage_20 ⟨by decide +kernel, by decide +kernel⟩) (fun r_2 hr_2 => ?_)
  obtain rfl : r_2 = 1 := hr_2
  refine lv_if_ne (tgt := 28) hx hb d_K_damage_23 (by decide) (fun _ => ?_) (fun h9 => absurd h9 (by decide +kernel))
  refine lv_aload hx hb d_K_damage_28 (lv_at hl 0 rfl) ?_
  refine va_getN (D := (dC, dI)) (ci := 6) (v := .ref hpi) (C := R_V) (T := F_V) (N := 3) hx hb hw0 in_V hown hK hP 5 rfl rfl 0 (by decide) (va_Nw.use rfl (hN.1 (.fieldLinkNest R_K 153 "TextKeeper$Revision" "piece" "[B" "TextKeeper") (List.mem_of_getElem? (i := 14) rfl))) (fun _ h9 => h9) rfl d_K_damage_30 ?_
  refine lv_iload_n hx hb d_K_damage_33 rfl (lv_at hl 4 rfl) ?_
  refine lv_aload hx hb d_K_damage_34 (lv_at hl 0 rfl) ?_
  refine va_getN (D := (dC, dI)) (ci := 6) (v := .ref hpi) (C := R_V) (T := F_V) (N := 3) hx hb hw0 in_V hown hK hP 5 rfl rfl 0 (by decide) (va_Nw.use rfl (hN.1 (.fieldLinkNest R_K 153 "TextKeeper$Revision" "piece" "[B" "TextKeeper") (List.mem_of_getElem? (i := 14) rfl))) (fun _ h9 => h9) rfl d_K_damage_36 ?_
  refine lv_iload_n hx hb d_K_damage_39 rfl (lv_at hl 4 rfl) ?_
  refine va_bald hx hb hK hP 6 2 rfl rfl (vp_in_nI hx9 (by omega)) d_K_damage_40 ?_
  refine lv_topi (fun x_3 ex_3 => ?_)
  refine lv_iload hx hb d_K_damage_41 (lv_at hl 5 rfl) ?_
  refine lv_ixor hx hb d_K_damage_43 ?_
  refine lv_topi (fun x_4 ex_4 => ?_)
  obtain ⟨x_5, ex_5⟩ : ∃ y : Int32, x_4.toInt8.toInt32 = y := ⟨_, rfl⟩
  refine lv_i2b (v := x_5) hx hb d_K_damage_44 ex_5 ?_
  refine va_bast hx hb hK hP hD hS 6 2 rfl rfl (vp_in_nI hx9 (by omega)) d_K_damage_45 (fun H locs hP hD hS => ?_)
  replace hP : va_P (dC, dI) vwCl [(h0, .inr (0, [.ref hd, v_buffer, v_fetched, v_compared, v_maker, v_writer, .ref hp, .int i_madeDocuments, .int i_fetchedSteps])), (hp, .inr (4, [.int 0, .int p_i_going, .int p_i_writesLeft])), (hd, .inl (cD, 8, .inr (.inr (.inr (.inr (fD)))))), (hdo, .inr (5, [.ref hra, .int (nI df), .int (nI dn)])), (hra, .inl (cR, 64, .inr (.inr (.inr (.inr (fr)))))), (hv, .inr (6, [.ref hpi, .int au, .int sm])), (hpi, .inl (cB, np, .inl (upd (fp) (Int32.toNatClampNeg (nI x)) (vp_nar .byte (x_5)))))] H := hP
  replace hD : va_D A [(h0, .inr (0, [.ref hd, v_buffer, v_fetched, v_compared, v_maker, v_writer, .ref hp, .int i_madeDocuments, .int i_fetchedSteps])), (hp, .inr (4, [.int 0, .int p_i_going, .int p_i_writesLeft])), (hd, .inl (cD, 8, .inr (.inr (.inr (.inr (fD)))))), (hdo, .inr (5, [.ref hra, .int (nI df), .int (nI dn)])), (hra, .inl (cR, 64, .inr (.inr (.inr (.inr (fr)))))), (hv, .inr (6, [.ref hpi, .int au, .int sm])), (hpi, .inl (cB, np, .inl (upd (fp) (Int32.toNatClampNeg (nI x)) (vp_nar .byte (x_5)))))] := hD
  have eS : upd (fp) (Int32.toNatClampNeg (nI x)) (vp_nar .byte (x_5)) = upd fp x (nbb (fp x ^^^ a4)) := by rw [nI_clamp (by omega), show vp_nar .byte x_5 = nbb x_5 from vp_nar_byte x_5]; refine congrArg (upd fp x) ?_; rw [← ex_5, ex_4, ex_3, nI_clamp (by omega)]; exact nbb_B _
  rw [eS] at hP hD
  refine lv_iconst (v := 1) hx hb d_K_damage_46 (by decide) ?_
  have hP9 := hP.sub (ws' := [(h0, .inr (0, [.ref hd, v_buffer, v_fetched, v_compared, v_maker, v_writer, .ref hp, .int i_madeDocuments, .int i_fetchedSteps])), (hp, .inr (4, [.int 0, .int p_i_going, .int p_i_writesLeft])), (hd, .inl (cD, 8, .inr (.inr (.inr (.inr (fD)))))), (hdo, .inr (5, [.ref hra, .int (nI df), .int (nI dn)])), (hra, .inl (cR, 64, .inr (.inr (.inr (.inr (fr)))))), (hv, .inr (6, [.ref hpi, .int au, .int sm])), (hpi, .inl (cB, np, .inl ((upd fp x (nbb (fp x ^^^ a4))))))]) [0, 1, 2, 3, 4, 5, 6] rfl
  have hD9 := hD.sub (ws' := [(h0, .inr (0, [.ref hd, v_buffer, v_fetched, v_compared, v_maker, v_writer, .ref hp, .int i_madeDocuments, .int i_fetchedSteps])), (hp, .inr (4, [.int 0, .int p_i_going, .int p_i_writesLeft])), (hd, .inl (cD, 8, .inr (.inr (.inr (.inr (fD)))))), (hdo, .inr (5, [.ref hra, .int (nI df), .int (nI dn)])), (hra, .inl (cR, 64, .inr (.inr (.inr (.inr (fr)))))), (hv, .inr (6, [.ref hpi, .int au, .int sm])), (hpi, .inl (cB, np, .inl ((upd fp x (nbb (fp x ^^^ a4))))))]) [0, 1, 2, 3, 4, 5, 6] (by decide) rfl
  have hK9 := hK.sub (tys' := [(cD, .object R_D), (cR, .object R_V), (cB, .byte)]) [0, 1, 2] rfl
  exact W.zret (v := 1) (ty := .boolean) hx hb hr rfl (fun t ht hW => ⟨⟨1, (), rfl, rfl, by rw [ht]; exact hP9, va_K.moved hW.alike hK9, hD9⟩, hS.F ht⟩) hS.2.2 d_K_damage_47
set_option maxHeartbeats 4000000 in
set_option maxRecDepth 100000 in
theorem g_make_F (l : Launch) (dC : Nat → ClassId) (dI : Nat → Nat → Nat) (h0 : Nat) (v_documents : Value) (v_buffer : Value) (v_fetched : Value) (v_compared : Value) (v_maker : Value) (v_writer : Value) (i_fetchedSteps : Int32) (hp : Nat) (p_i_going : Int32) (p_i_writesLeft : Int32)  : Met l y_K_make k_K_make ({ frames := 1, cells := 0, slots := 0, locals := 20 } : Room) (va_Pc [.ref h0] (pc_R (dC, dI) [(h0, .inr (0, [v_documents, v_buffer, v_fetched, v_compared, v_maker, v_writer, .ref hp, .int 8, .int i_fetchedSteps])), (hp, .inr (4, [.int 0, .int p_i_going, .int p_i_writesLeft]))] [])) (vp_Si (fun r => r = (-1))) 0 0 (fun _ => False) := by
  refine Met.ofW (cc := prog_1_method_4_code) (maxL := 2) (ret := (some .int)) (by decide) rfl ?_
  intro p e s m args below meth c s₁ B hml hv
  obtain ⟨rfl, hP, hK, hN⟩ := hv
  have hx := B.exec
  have hb := B.bytes
  have hr := B.returns
  have hts := atoms_spec (ws := k_K_make) B.pre
  have hw0 : ∀ w ∈ w0, w.before _ s = true := fun w h => hts w (List.mem_cons_of_mem _ h)
  have hown : s.vm.findClass R_K = some m.cls := findClass_of_methodNamed B.named
  have hlocks := B.notSynchronized
  have hP : va_P (dC, dI) vwCl [(h0, .inr (0, [v_documents, v_buffer, v_fetched, v_compared, v_maker, v_writer, .ref hp, .int 8, .int i_fetchedSteps])), (hp, .inr (4, [.int 0, .int p_i_going, .int p_i_writesLeft]))] s.heap := hP
  have hl := lv_entry ([.ref h0]) (n := 2) (Nat.le_of_ble_eq_true rfl)
  rw [lg_entry_eq]
  generalize (lg_sl ([.ref h0]) ++ List.replicate (2 - (lg_sl ([.ref h0])).length) Slot.unset).toArray = ls at hl ⊢
  have hl : lv_has ls 2 [(0, .ref h0)] := hl
  refine lv_aload_n hx hb d_K_make_0 rfl (lv_at hl 0 rfl) ?_
  have hPc := hP.sub (ws' := [(h0, .inr (0, [v_documents, v_buffer, v_fetched, v_compared, v_maker, v_writer, .ref hp, .int 8, .int i_fetchedSteps])), (hp, .inr (4, [.int 0, .int p_i_going, .int p_i_writesLeft]))]) [0, 1] rfl
  have hKc := hK.sub (tys' := []) [] rfl
  refine ps_v (va_runV (As := []) (rest := []) ⟨hx, hb, hml, hown, hw0⟩ (g_needPower l dC dI h0 v_documents v_buffer v_fetched v_compared v_maker v_writer 8 i_fetchedSteps hp p_i_going p_i_writesLeft) (cwV 0 hw0 (gd_Vm wm_404 wm_405 wm_406 wm_308 wm_407) rfl rfl rfl (by decide +kernel) ⟨by decide +kernel, by decide +kernel⟩) (prV_R hPc hKc hN (va_recv hKc hPc (ci := 0) (q0 := 0) rfl rfl)) rfl rfl hl.1 rfl (lv_room (Nat.le_of_ble_eq_true rfl)) d_K_make_1 ⟨by decide +kernel, by decide +kernel⟩) ?_
  refine lv_aload_n hx hb d_K_make_4 rfl (lv_at hl 0 rfl) ?_
  refine va_get (D := (dC, dI)) (ci := 0) (v := .int 8) (C := R_K) (T := F_K) (N := 9) hx hb hw0 in_K hown hK hP 0 rfl rfl 7 (by decide) (hw0 (.fieldLink R_K 49 "TextKeeper" "madeDocuments" "I") wm_188) (fun _ h9 => h9) rfl d_K_make_5 ?_
  refine lv_bipush (v := 8) hx hb d_K_make_8 (by decide +kernel) ?_
  refine lv_icmp_lt (tgt := 15) hx hb d_K_make_10 (by decide) (fun h9 => absurd h9 (by decide +kernel)) (fun _ => ?_)
  refine lv_iconst (v := (-1)) hx hb d_K_make_13 (by decide) ?_
  exact W.iret (v := (-1)) hx hb hr (fun t ht hW => ⟨(-1), rfl, rfl, ht⟩) (fun q h => by cases h) d_K_make_14
end
section
set_option maxHeartbeats 4000000 in
set_option maxRecDepth 100000 in
theorem g_make_T (l : Launch) (dC : Nat → ClassId) (dI : Nat → Nat → Nat) (sz : Nat) (h0 : Nat) (v_buffer : Value) (v_fetched : Value) (v_compared : Value) (v_maker : Value) (v_writer : Value) (i_fetchedSteps : Int32) (hp : Nat) (go : Option Nat) (wl : Int32) (hd : Nat) (cD : ClassId) (fD : Nat → Option Nat) (nd : Nat) (hg : ∀ w, go = some w → wl = nI w ∧ w < 2 ^ 31) (hle : ∀ w, go = some w → 1 ≤ w) (hnd : nd < 8) : Met l y_K_make k_K_make ({ frames := 2, cells := 2, slots := 67, locals := 42 } : Room) (va_Pc [.ref h0] (pc_E (dC, dI) [(h0, .inr (0, [.ref hd, v_buffer, v_fetched, v_compared, v_maker, v_writer, .ref hp, .int (nI nd), .int i_fetchedSteps])), (hp, .inr (4, [.int 0, .int (bI go.isSome), .int wl])), (hd, .inl (cD, 8, .inr (.inr (.inr (.inr (fD))))))] [(cD, .object R_D)] sz)) (va_Qi (fun (r : Int32) (_ : Unit) => r = nI nd) (fun (_ : Unit) t => ∃ (wl2 : Int32) (hdo : Nat) (hra : Nat) (cR : ClassId), (∀ w, go = some w → wl2 = nI (w - 1)) ∧ at_E (dC, dI) (va_A [(h0, .inr (0, [.ref hd, v_buffer, v_fetched, v_compared, v_maker, v_writer, .ref hp, .int (nI nd), .int i_fetchedSteps])), (hp, .inr (4, [.int 0, .int (bI go.isSome), .int wl])), (hd, .inl (cD, 8, .inr (.inr (.inr (.inr (fD))))))] sz) [(h0, .inr (0, [.ref hd, v_buffer, v_fetched, v_compared, v_maker, v_writer, .ref hp, .int (nI (nd + 1)), .int i_fetchedSteps])), (hp, .inr (4, [.int 0, .int (bI go.isSome), .int wl2])), (hd, .inl (cD, 8, .inr (.inr (.inr (.inr ((va_up fD nd (some hdo)))))))), (hdo, .inr (5, [.ref hra, .int 0, .int 0])), (hra, .inl (cR, 64, .inr (.inr (.inr (.inr (fun _ => none))))))] [(cD, .object R_D), (cR, .object R_V)] t) (va_A [(h0, .inr (0, [.ref hd, v_buffer, v_fetched, v_compared, v_maker, v_writer, .ref hp, .int (nI nd), .int i_fetchedSteps])), (hp, .inr (4, [.int 0, .int (bI go.isSome), .int wl])), (hd, .inl (cD, 8, .inr (.inr (.inr (.inr (fD))))))] sz)) 2 67 (va_A [(h0, .inr (0, [.ref hd, v_buffer, v_fetched, v_compared, v_maker, v_writer, .ref hp, .int (nI nd), .int i_fetchedSteps])), (hp, .inr (4, [.int 0, .int (bI go.isSome), .int wl])), (hd, .inl (cD, 8, .inr (.inr (.inr (.inr (fD))))))] sz) := by
  refine Met.ofW (cc := prog_1_method_4_code) (maxL := 2) (ret := (some .int)) (by decide) rfl ?_
  intro p e s m args below meth c s₁ B hml hv
  obtain ⟨rfl, hsz, hP, hK, hD0, hN⟩ := hv
  have hx := B.exec
  have hb := B.bytes
  have hr := B.returns
  have hts := atoms_spec (ws := k_K_make) B.pre
  have hw0 : ∀ w ∈ w0, w.before _ s = true := fun w h => hts w (List.mem_cons_of_mem _ h)
  have hown : s.vm.findClass R_K = some m.cls := findClass_of_methodNamed B.named
  have hlocks := B.notSynchronized
  subst hsz
  have hD := hD0.self (sz := s.heap.size)
  generalize hAe : va_A [(h0, .inr (0, [.ref hd, v_buffer, v_fetched, v_compared, v_maker, v_writer, .ref hp, .int (nI nd), .int i_fetchedSteps])), (hp, .inr (4, [.int 0, .int (bI go.isSome), .int wl])), (hd, .inl (cD, 8, .inr (.inr (.inr (.inr (fD))))))] s.heap.size = A at hD ⊢
  have hA : ∀ q : Nat, s.heap.size ≤ q → A q := fun q h => by rw [← hAe]; exact Or.inr h
  have hS : va_S A s.heap s.heap [] := va_S.rf
  have hP : va_P (dC, dI) vwCl [(h0, .inr (0, [.ref hd, v_buffer, v_fetched, v_compared, v_maker, v_writer, .ref hp, .int (nI nd), .int i_fetchedSteps])), (hp, .inr (4, [.int 0, .int (bI go.isSome), .int wl])), (hd, .inl (cD, 8, .inr (.inr (.inr (.inr (fD))))))] s.heap := hP
  have hl := lv_entry ([.ref h0]) (n := 2) (Nat.le_of_ble_eq_true rfl)
  rw [lg_entry_eq]
  generalize (lg_sl ([.ref h0]) ++ List.replicate (2 - (lg_sl ([.ref h0])).length) Slot.unset).toArray = ls at hl ⊢
  have hl : lv_has ls 2 [(0, .ref h0)] := hl
  refine lv_aload_n hx hb d_K_make_0 rfl (lv_at hl 0 rfl) ?_
  have hPc := hP.sub (ws' := [(h0, .inr (0, [.ref hd, v_buffer, v_fetched, v_compared, v_maker, v_writer, .ref hp, .int (nI nd), .int i_fetchedSteps])), (hp, .inr (4, [.int 0, .int (bI go.isSome), .int wl]))]) [0, 1] rfl
  have hKc := hK.sub (tys' := []) [] rfl
  refine ps_v (va_runV (As := []) (rest := []) ⟨hx, hb, hml, hown, hw0⟩ (g_needPower l dC dI h0 (.ref hd) v_buffer v_fetched v_compared v_maker v_writer (nI nd) i_fetchedSteps hp (bI go.isSome) wl) (cwV 0 hw0 (gd_Vm wm_404 wm_405 wm_406 wm_308 wm_407) rfl rfl rfl (by decide +kernel) ⟨by decide +kernel, by decide +kernel⟩) (prV_R hPc hKc hN (va_recv hKc hPc (ci := 0) (q0 := 0) rfl rfl)) rfl rfl hl.1 rfl (lv_room (Nat.le_of_ble_eq_true rfl)) d_K_make_1 ⟨by decide +kernel, by decide +kernel⟩) ?_
  refine lv_aload_n hx hb d_K_make_4 rfl (lv_at hl 0 rfl) ?_
  refine va_get (D := (dC, dI)) (ci := 0) (v := .int (nI nd)) (C := R_K) (T := F_K) (N := 9) hx hb hw0 in_K hown hK hP 0 rfl rfl 7 (by decide) (hw0 (.fieldLink R_K 49 "TextKeeper" "madeDocuments" "I") wm_188) (fun _ h9 => h9) rfl d_K_make_5 ?_
  refine lv_bipush (v := 8) hx hb d_K_make_8 (by decide +kernel) ?_
  refine lv_icmp_lt (tgt := 15) hx hb d_K_make_10 (by decide) (fun c_1 => ?_) (fun c_1 => absurd (nI_lt hnd (by decide)) c_1)
  refine lv_aload_n hx hb d_K_make_15 rfl (lv_at hl 0 rfl) ?_
  refine lv_iconst (v := 1) hx hb d_K_make_16 (by decide) ?_
  have hPc := hP.sub (ws' := [(h0, .inr (0, [.ref hd, v_buffer, v_fetched, v_compared, v_maker, v_writer, .ref hp, .int (nI nd), .int i_fetchedSteps])), (hp, .inr (4, [.int 0, .int (bI go.isSome), .int wl]))]) [0, 1] rfl
  have hKc := hK.sub (tys' := []) [] rfl
  have hDc := hD.sub (ws' := [(h0, .inr (0, [.ref hd, v_buffer, v_fetched, v_compared, v_maker, v_writer, .ref hp, .int (nI nd), .int i_fetchedSteps])), (hp, .inr (4, [.int 0, .int (bI go.isSome), .int wl]))]) [0, 1] (by decide) rfl
  have hFc := va_free (wc := [(h0, .inr (0, [.ref hd, v_buffer, v_fetched, v_compared, v_maker, v_writer, .ref hp, .int (nI nd), .int i_fetchedSteps])), (hp, .inr (4, [.int 0, .int (bI go.isSome), .int wl]))]) hD hS hA [0, 1] rfl
  refine va_callv (va_runV (As := [.int 1]) (rest := []) ⟨hx, hb, hml, hown, hw0⟩ (g_spend l dC dI s.heap.size h0 (.ref hd) v_buffer v_fetched v_compared v_maker v_writer (nI nd) i_fetchedSteps hp _ wl 1 (by first | assumption | decide | omega) (by first | assumption | decide | omega) (by first | assumption | decide | omega)) (cwV 1 hw0 (gd_Vm wm_436 wm_437 wm_438 wm_308 wm_439) rfl rfl rfl (by decide +kernel) ⟨by decide +kernel, by decide +kernel⟩) (prV_E hPc hKc hDc hN (va_recv hKc hPc (ci := 0) (q0 := 0) rfl rfl)) rfl rfl hl.1 rfl (lv_room (Nat.le_of_ble_eq_true rfl)) d_K_make_17 ⟨by decide +kernel, by decide +kernel⟩) hS (fun q _ h => hFc q h) hFc (fun u t H1 locs ht hvm hw hB hz1 hk1 hS => ?_)
  obtain ⟨wl2_2, hu_3, hP1, hK1, hD1⟩ := hB
  rw [ht] at hP1
  have hK1 := va_K.moved hvm.symm hK1
  try dsimp only at hw
  obtain ⟨hP, hD⟩ := va_join (wr := [(hd, .inl (cD, 8, .inr (.inr (.inr (.inr (fD))))))]) (w1 := [(h0, .inr (0, [.ref hd, v_buffer, v_fetched, v_compared, v_maker, v_writer, .ref hp, .int (nI nd), .int i_fetchedSteps])), (hp, .inr (4, [.int 0, .int (bI go.isSome), .int wl2_2]))]) hP hD [0, 1] [2] rfl rfl (by decide) (by decide) hk1 hFc hP1 hD1
  generalize H1 = H at hP hS ⊢
  replace hP : va_P (dC, dI) vwCl [(hd, .inl (cD, 8, .inr (.inr (.inr (.inr (fD)))))), (h0, .inr (0, [.ref hd, v_buffer, v_fetched, v_compared, v_maker, v_writer, .ref hp, .int (nI nd), .int i_fetchedSteps])), (hp, .inr (4, [.int 0, .int (bI go.isSome), .int wl2_2]))] H := hP
  replace hD : va_D A [(hd, .inl (cD, 8, .inr (.inr (.inr (.inr (fD)))))), (h0, .inr (0, [.ref hd, v_buffer, v_fetched, v_compared, v_maker, v_writer, .ref hp, .int (nI nd), .int i_fetchedSteps])), (hp, .inr (4, [.int 0, .int (bI go.isSome), .int wl2_2]))] := hD
  replace hK : va_K (dC, dI) vwCl [(cD, .object R_D)] s := hK
  · have hz9 := hnd
    refine lv_aload_n hx hb d_K_make_20 rfl (lv_at hl 0 rfl) ?_
    refine va_get (D := (dC, dI)) (ci := 0) (v := .int (nI nd)) (C := R_K) (T := F_K) (N := 9) hx hb hw0 in_K hown hK hP 1 rfl rfl 7 (by decide) (hw0 (.fieldLink R_K 49 "TextKeeper" "madeDocuments" "I") wm_188) (fun _ h9 => h9) rfl d_K_make_21 ?_
    refine lv_istore_n (lv' := [(1, .int (nI nd)), (0, .ref h0)]) hx hb d_K_make_24 rfl hl (by decide) rfl (fun ls hl => ?_)
    refine lv_aload_n hx hb d_K_make_25 rfl (lv_at hl 1 rfl) ?_
    refine va_get (D := (dC, dI)) (ci := 0) (v := .ref hd) (C := R_K) (T := F_K) (N := 9) hx hb hw0 in_K hown hK hP 1 rfl rfl 0 (by decide) (hw0 (.fieldLink R_K 11 "TextKeeper" "documents" "[LTextKeeper$Document;") wm_161) (fun _ h9 => h9) rfl d_K_make_26 ?_
    refine lv_iload_n hx hb d_K_make_29 rfl (lv_at hl 0 rfl) ?_
    refine va_new (ci := 5) (fs := [.null, .int 0, .int 0]) (C := R_D) (T := F_D) (N := 3) hx hb hw0 in_D ft_D tk_D hown (hw0 (.classLink R_K 9 R_D) wm_160) (hw0 (.instantiable R_D 3) wm_440) (hw0 (.initialized R_D) wm_315) hK hP hD hS hA rfl (fun j hj => nw_D j hj) (by decide +kernel) (by decide +kernel) d_K_make_30 (fun q_4 H hP hD hS => ?_)
    replace hP : va_P (dC, dI) vwCl [(hd, .inl (cD, 8, .inr (.inr (.inr (.inr (fD)))))), (h0, .inr (0, [.ref hd, v_buffer, v_fetched, v_compared, v_maker, v_writer, .ref hp, .int (nI nd), .int i_fetchedSteps])), (hp, .inr (4, [.int 0, .int (bI go.isSome), .int wl2_2])), (q_4, .inr (5, [.null, .int 0, .int 0]))] H := hP
    replace hD : va_D A [(hd, .inl (cD, 8, .inr (.inr (.inr (.inr (fD)))))), (h0, .inr (0, [.ref hd, v_buffer, v_fetched, v_compared, v_maker, v_writer, .ref hp, .int (nI nd), .int i_fetchedSteps])), (hp, .inr (4, [.int 0, .int (bI go.isSome), .int wl2_2])), (q_4, .inr (5, [.null, .int 0, .int 0]))] := hD
    refine W.widen (k := 1) (n := 3) (by decide +kernel) (by decide +kernel) ?_
    refine lv_dup hx hb d_K_make_33 rfl ?_
    have hPc := hP.sub (ws' := [(q_4, .inr (5, [.null, .int 0, .int 0]))]) [3] rfl
    have hKc := hK.sub (tys' := []) [] rfl
    have hDc := hD.sub (ws' := [(q_4, .inr (5, [.null, .int 0, .int 0]))]) [3] (by decide) rfl
    have hFc := va_free (wc := [(q_4, .inr (5, [.null, .int 0, .int 0]))]) hD hS hA [3] rfl
    refine va_callv (va_runI (As := []) (rest := [.ref q_4, .int (nI nd), .ref hd]) ⟨hx, hb, hml, hown, hw0⟩ (g_initD l dC dI H.size q_4) (cwI 0 hw0 (gd_Im wm_441) rfl rfl rfl (hw0 (.initialized R_D) wm_315) (hw0 (.methodLink R_K 73 y_D_init) wm_442) (hw0 (.instanceMethod y_D_init) wm_443) rfl (by decide +kernel) ⟨by decide +kernel, by decide +kernel⟩) (prS_E hPc hKc hDc hN) rfl rfl hl.1 rfl (lv_room (Nat.le_of_ble_eq_true rfl)) d_K_make_34 ⟨by decide +kernel, by decide +kernel⟩) hS (fun q _ h => hFc q h) hFc (fun u t H1 locs ht hvm hw hB hz1 hk1 hS => ?_)
    obtain ⟨hra_5, cR_6, hP1, hK1, hD1⟩ := hB
    rw [ht] at hP1
    have hK1 := va_K.moved hvm.symm hK1
    try dsimp only at hw
    obtain ⟨hP, hD⟩ := va_join (wr := [(hd, .inl (cD, 8, .inr (.inr (.inr (.inr (fD)))))), (h0, .inr (0, [.ref hd, v_buffer, v_fetched, v_compared, v_maker, v_writer, .ref hp, .int (nI nd), .int i_fetchedSteps])), (hp, .inr (4, [.int 0, .int (bI go.isSome), .int wl2_2]))]) (w1 := [(q_4, .inr (5, [.ref hra_5, .int 0, .int 0])), (hra_5, .inl (cR_6, 64, .inr (.inr (.inr (.inr (fun _ => none))))))]) hP hD [3] [0, 1, 2] rfl rfl (by decide) (by decide) hk1 hFc hP1 hD1
    have hK := hK.app (hK1.sub (tys' := [(cR_6, .object R_V)]) [0] rfl)
    generalize H1 = H at hP hS ⊢
    replace hP : va_P (dC, dI) vwCl [(hd, .inl (cD, 8, .inr (.inr (.inr (.inr (fD)))))), (h0, .inr (0, [.ref hd, v_buffer, v_fetched, v_compared, v_maker, v_writer, .ref hp, .int (nI nd), .int i_fetchedSteps])), (hp, .inr (4, [.int 0, .int (bI go.isSome), .int wl2_2])), (q_4, .inr (5, [.ref hra_5, .int 0, .int 0])), (hra_5, .inl (cR_6, 64, .inr (.inr (.inr (.inr (fun _ => none))))))] H := hP
    replace hD : va_D A [(hd, .inl (cD, 8, .inr (.inr (.inr (.inr (fD)))))), (h0, .inr (0, [.ref hd, v_buffer, v_fetched, v_compared, v_maker, v_writer, .ref hp, .int (nI nd), .int i_fetchedSteps])), (hp, .inr (4, [.int 0, .int (bI go.isSome), .int wl2_2])), (q_4, .inr (5, [.ref hra_5, .int 0, .int 0])), (hra_5, .inl (cR_6, 64, .inr (.inr (.inr (.inr (fun _ => none))))))] := hD
    replace hK : va_K (dC, dI) vwCl [(cD, .object R_D), (cR_6, .object R_V)] s := hK
    refine W.widen (k := 2) (n := 67) (by decide +kernel) (by decide +kernel) ?_
    refine va_astq hx hb hK hP hD hS 0 0 3 5 rfl rfl rfl rfl (vp_in_nI hnd (by decide)) d_K_make_37 (fun H locs hP hD hS => ?_)
    replace hP : va_P (dC, dI) vwCl [(hd, .inl (cD, 8, .inr (.inr (.inr (.inr (va_up (fD) (Int32.toNatClampNeg (nI nd)) (some q_4))))))), (h0, .inr (0, [.ref hd, v_buffer, v_fetched, v_compared, v_maker, v_writer, .ref hp, .int (nI nd), .int i_fetchedSteps])), (hp, .inr (4, [.int 0, .int (bI go.isSome), .int wl2_2])), (q_4, .inr (5, [.ref hra_5, .int 0, .int 0])), (hra_5, .inl (cR_6, 64, .inr (.inr (.inr (.inr (fun _ => none))))))] H := hP
    replace hD : va_D A [(hd, .inl (cD, 8, .inr (.inr (.inr (.inr (va_up (fD) (Int32.toNatClampNeg (nI nd)) (some q_4))))))), (h0, .inr (0, [.ref hd, v_buffer, v_fetched, v_compared, v_maker, v_writer, .ref hp, .int (nI nd), .int i_fetchedSteps])), (hp, .inr (4, [.int 0, .int (bI go.isSome), .int wl2_2])), (q_4, .inr (5, [.ref hra_5, .int 0, .int 0])), (hra_5, .inl (cR_6, 64, .inr (.inr (.inr (.inr (fun _ => none))))))] := hD
    have eS : va_up (fD) (Int32.toNatClampNeg (nI nd)) (some q_4) = va_up fD nd (some q_4) := by rw [nI_clamp (by omega)]
    rw [eS] at hP hD
    refine lv_aload_n hx hb d_K_make_38 rfl (lv_at hl 1 rfl) ?_
    refine lv_dup hx hb d_K_make_39 rfl ?_
    refine va_get (D := (dC, dI)) (ci := 0) (v := .int (nI nd)) (C := R_K) (T := F_K) (N := 9) hx hb hw0 in_K hown hK hP 1 rfl rfl 7 (by decide) (hw0 (.fieldLink R_K 49 "TextKeeper" "madeDocuments" "I") wm_188) (fun _ h9 => h9) rfl d_K_make_40 ?_
    refine lv_iconst (v := 1) hx hb d_K_make_43 (by decide) ?_
    refine lv_iadd hx hb d_K_make_44 ?_
    refine lv_topi (fun x_8 ex_8 => ?_)
    obtain rfl : x_8 = (nI (nd + 1)) := by rw [ex_8]; exact nI_1 nd
    clear ex_8
    refine va_put (D := (dC, dI)) (ci := 0) (v := .int (nI (nd + 1))) (ty := .int) (C := R_K) (T := F_K) (N := 9) hx hb hw0 in_K ft_K tk_K nk_K hown hK hP hD hS 1 rfl rfl 7 (by decide) (hw0 (.fieldLink R_K 49 "TextKeeper" "madeDocuments" "I") wm_188) (fun _ h9 => h9) rfl (by decide +kernel) rfl rfl (Nat.le_of_ble_eq_true rfl) d_K_make_45 (fun H locs hP hD hS => ?_)
    replace hP : va_P (dC, dI) vwCl [(hd, .inl (cD, 8, .inr (.inr (.inr (.inr ((va_up fD nd (some q_4)))))))), (h0, .inr (0, [.ref hd, v_buffer, v_fetched, v_compared, v_maker, v_writer, .ref hp, .int (nI (nd + 1)), .int i_fetchedSteps])), (hp, .inr (4, [.int 0, .int (bI go.isSome), .int wl2_2])), (q_4, .inr (5, [.ref hra_5, .int 0, .int 0])), (hra_5, .inl (cR_6, 64, .inr (.inr (.inr (.inr (fun _ => none))))))] H := hP
    replace hD : va_D A [(hd, .inl (cD, 8, .inr (.inr (.inr (.inr ((va_up fD nd (some q_4)))))))), (h0, .inr (0, [.ref hd, v_buffer, v_fetched, v_compared, v_maker, v_writer, .ref hp, .int (nI (nd + 1)), .int i_fetchedSteps])), (hp, .inr (4, [.int 0, .int (bI go.isSome), .int wl2_2])), (q_4, .inr (5, [.ref hra_5, .int 0, .int 0])), (hra_5, .inl (cR_6, 64, .inr (.inr (.inr (.inr (fun _ => none))))))] := hD
    refine lv_iload_n hx hb d_K_make_48 rfl (lv_at hl 0 rfl) ?_
    have hP9 := hP.sub (ws' := [(h0, .inr (0, [.ref hd, v_buffer, v_fetched, v_compared, v_maker, v_writer, .ref hp, .int (nI (nd + 1)), .int i_fetchedSteps])), (hp, .inr (4, [.int 0, .int (bI go.isSome), .int wl2_2])), (hd, .inl (cD, 8, .inr (.inr (.inr (.inr ((va_up fD nd (some q_4)))))))), (q_4, .inr (5, [.ref hra_5, .int 0, .int 0])), (hra_5, .inl (cR_6, 64, .inr (.inr (.inr (.inr (fun _ => none))))))]) [1, 2, 0, 3, 4] rfl
    have hD9 := hD.sub (ws' := [(h0, .inr (0, [.ref hd, v_buffer, v_fetched, v_compared, v_maker, v_writer, .ref hp, .int (nI (nd + 1)), .int i_fetchedSteps])), (hp, .inr (4, [.int 0, .int (bI go.isSome), .int wl2_2])), (hd, .inl (cD, 8, .inr (.inr (.inr (.inr ((va_up fD nd (some q_4)))))))), (q_4, .inr (5, [.ref hra_5, .int 0, .int 0])), (hra_5, .inl (cR_6, 64, .inr (.inr (.inr (.inr (fun _ => none))))))]) [1, 2, 0, 3, 4] (by decide) rfl
    have hK9 := hK.sub (tys' := [(cD, .object R_D), (cR_6, .object R_V)]) [0, 1] rfl
    exact W.iret (v := (nI nd)) hx hb hr (fun t ht hW => ⟨⟨(nI nd), (), rfl, rfl, wl2_2, q_4, hra_5, cR_6, hu_3, by rw [ht]; exact hP9, va_K.moved hW.alike hK9, hD9⟩, hS.F ht⟩) hS.2.2 d_K_make_49
end
