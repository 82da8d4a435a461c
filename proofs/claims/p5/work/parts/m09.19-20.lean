section
set_option maxHeartbeats 4000000 in
set_option maxRecDepth 100000 in
theorem u_feed (l : Launch) (dC : Nat → ClassId) (dI : Nat → Nat → Nat) (sz : Nat) (h0 : Nat) (cB cI cL cZ : ClassId) (y : MY) (σ : Sg) (a1 : Int32) (a2 : Int32) (a3 : Int32) (a4 : Int32) (a5 : Int32) (hs : sOk σ) (hm : mOk σ y) : Met l y_O_feed k_O_feed ({ frames := 1, cells := 0, slots := 0, locals := 21 } : Room) (va_Pc [.ref h0, .int a1, .int a2, .int a3, .int a4, .int a5] (pc_E (dC, dI) (mW h0 cB cI cL cZ y) (mT cB cI cL cZ) sz)) (va_Qi (fun (r : Int32) (_ : Unit) => (sFeed σ a1 a2 a3 a4 a5).2.1 = 0 → r = (sFeed σ a1 a2 a3 a4 a5).2.2) (fun (_ : Unit) t => ∃ y2 : MY, (mOk (sFeed σ a1 a2 a3 a4 a5).1 y2 ∧ y2.z_thrown = (sFeed σ a1 a2 a3 a4 a5).2.1) ∧ at_E (dC, dI) (va_A (mW h0 cB cI cL cZ y) sz) (mW h0 cB cI cL cZ y2) (mT cB cI cL cZ) t) (va_A (mW h0 cB cI cL cZ y) sz)) 0 0 (va_A (mW h0 cB cI cL cZ y) sz) := by
  obtain ⟨hbu, hgo, hfi, hma, hln, hau, hsu, hrow, hmade, hbase, htx9, hot, hpc, z_thrown, z_down, z_lasts, z_size, z_documents, z_madeSize, z_baseSize, z_textSize, z_textSteps, z_otherSize, z_pieceSize, z_at, z_end, z_value, fbu, fg, ff, fm, fl, fa, fs, fr, f, fb, ft, fo, fp⟩ := y
  have hm_dw : z_down = bI σ.down := hm.dw
  have hm_la : z_lasts = vI σ.go := hm.la
  have hm_sz : z_size = nI σ.buf.length := hm.sz
  have hm_bf : tx σ.buf σ.buf.length fbu := hm.bf
  have hm_nd : z_documents = nI σ.nd := hm.nd
  have hm_gn : ∀ i, i < 8 → ((∃ d, σ.ds i = some d) → fg i = 0) ∧ (i < σ.nd → σ.ds i = none → ¬ fg i = 0) ∧ (σ.nd ≤ i → fg i = 0) := hm.gn
  have hm_fm : ∀ i, i < 8 → (∀ d, σ.ds i = some d → ff i = nI d.first ∧ fm i = nI d.count) ∧ (σ.nd ≤ i → ff i = 0 ∧ fm i = 0) := hm.fm
  have hm_ln : ∀ j, j < 512 → fl j = vI (lnq (pqS σ.ds) j) := hm.ln
  have hm_rw : rowOk (pqS σ.ds) fr := hm.rw
  have hm_au : ∀ i j d r, i < 8 → j < 64 → σ.ds i = some d → d.rv j = some r → fa (64 * i + j) = r.au ∧ fs (64 * i + j) = r.sm := hm.au
  have hm_tq : (z_textSize = nI σ.fet.length ∧ tx σ.fet σ.fet.length ft) ∨ (z_textSize = (-1) ∧ σ.fet = []) := hm.tq
  have hm_st : z_textSteps = σ.stp := hm.st
  clear hm
  obtain rfl : z_size = _ := hm_sz
  obtain rfl : z_lasts = _ := hm_la
  obtain rfl : z_documents = _ := hm_nd
  obtain rfl : z_textSteps = _ := hm_st
  have hm_sz : nI σ.buf.length = nI σ.buf.length := rfl
  have hm_la : vI σ.go = vI σ.go := rfl
  have hm_nd : nI σ.nd = nI σ.nd := rfl
  have hm_st : σ.stp = σ.stp := rfl
  have hml0 := hs.buf.1
  have hnd8 := hs.nd
  have hfl : ∀ j, j < 512 → fl j = vI (lnq (pqS σ.ds) j) := hm_ln
  have hrw : rowOk (pqS σ.ds) fr := hm_rw
  have hbd := row_bd hrw
  refine Met.ofW (cc := prog_9_method_5_code) (maxL := 8) (ret := (some .boolean)) (by decide) rfl ?_
  intro p e s m args below meth c s₁ B hml hv
  obtain ⟨rfl, hsz, hP, hK, hD0, hN⟩ := hv
  have hx := B.exec
  have hb := B.bytes
  have hr := B.returns
  have hts := atoms_spec (ws := k_O_feed) B.pre
  have hw0 : ∀ w ∈ w0, w.before _ s = true := fun w h => hts w (List.mem_cons_of_mem _ h)
  have hown : s.vm.findClass R_O = some m.cls := findClass_of_methodNamed B.named
  have hlocks := B.notSynchronized
  subst hsz
  have hD := hD0.self (sz := s.heap.size)
  generalize hAe : va_A (mW h0 cB cI cL cZ _) s.heap.size = A at hD ⊢
  have hA : ∀ q : Nat, s.heap.size ≤ q → A q := fun q h => by rw [← hAe]; exact Or.inr h
  clear hAe hD0
  have hS : va_S A s.heap s.heap [] := va_S.rf
  replace hP : va_P (dC, dI) vwCl [(h0, .inr (7, [.int z_thrown, .int z_down, .int (vI σ.go), .ref hbu, .int (nI σ.buf.length), .int (nI σ.nd), .ref hgo, .ref hfi, .ref hma, .ref hln, .ref hau, .ref hsu, .ref hrow, .ref hmade, .int z_madeSize, .ref hbase, .int z_baseSize, .ref htx9, .int z_textSize, .int σ.stp, .ref hot, .int z_otherSize, .ref hpc, .int z_pieceSize, .int z_at, .int z_end, .int z_value])), (hbu, .inl (cB, 256, .inl (fbu))), (hgo, .inl (cZ, 8, .inl (fg))), (hfi, .inl (cI, 8, .inl (ff))), (hma, .inl (cI, 8, .inl (fm))), (hln, .inl (cL, 512, .inl (fl))), (hau, .inl (cI, 512, .inl (fa))), (hsu, .inl (cI, 512, .inl (fs))), (hrow, .inl (cB, 16384, .inl (fr))), (hmade, .inl (cB, 256, .inl (f))), (hbase, .inl (cB, 256, .inl (fb))), (htx9, .inl (cB, 256, .inl (ft))), (hot, .inl (cB, 256, .inl (fo))), (hpc, .inl (cB, 600, .inl (fp)))] s.heap := hP
  replace hD : va_D A [(h0, .inr (7, [.int z_thrown, .int z_down, .int (vI σ.go), .ref hbu, .int (nI σ.buf.length), .int (nI σ.nd), .ref hgo, .ref hfi, .ref hma, .ref hln, .ref hau, .ref hsu, .ref hrow, .ref hmade, .int z_madeSize, .ref hbase, .int z_baseSize, .ref htx9, .int z_textSize, .int σ.stp, .ref hot, .int z_otherSize, .ref hpc, .int z_pieceSize, .int z_at, .int z_end, .int z_value])), (hbu, .inl (cB, 256, .inl (fbu))), (hgo, .inl (cZ, 8, .inl (fg))), (hfi, .inl (cI, 8, .inl (ff))), (hma, .inl (cI, 8, .inl (fm))), (hln, .inl (cL, 512, .inl (fl))), (hau, .inl (cI, 512, .inl (fa))), (hsu, .inl (cI, 512, .inl (fs))), (hrow, .inl (cB, 16384, .inl (fr))), (hmade, .inl (cB, 256, .inl (f))), (hbase, .inl (cB, 256, .inl (fb))), (htx9, .inl (cB, 256, .inl (ft))), (hot, .inl (cB, 256, .inl (fo))), (hpc, .inl (cB, 600, .inl (fp)))] := hD
  have hl := lv_entry ([.ref h0, .int a1, .int a2, .int a3, .int a4, .int a5]) (n := 8) (Nat.le_of_ble_eq_true rfl)
  rw [lg_entry_eq]
  generalize (lg_sl ([.ref h0, .int a1, .int a2, .int a3, .int a4, .int a5]) ++ List.replicate (8 - (lg_sl ([.ref h0, .int a1, .int a2, .int a3, .int a4, .int a5])).length) Slot.unset).toArray = ls at hl ⊢
  have hl : lv_has ls 8 [(0, .ref h0), (1, .int a1), (2, .int a2), (3, .int a3), (4, .int a4), (5, .int a5)] := hl
  rcases hdw : σ.down with _ | _
  · obtain rfl : z_down = 0 := (by have h9 := hm_dw; rw [hdw] at h9; exact h9)
    refine lv_aload_n hx hb d_O_feed_0 rfl (lv_at hl 0 rfl) ?_
    refine lv_iconst (v := 1) hx hb d_O_feed_1 (by decide) ?_
    have hPc := hP.sub (ws' := [(h0, .inr (7, [.int z_thrown, .int 0, .int (vI σ.go), .ref hbu, .int (nI σ.buf.length), .int (nI σ.nd), .ref hgo, .ref hfi, .ref hma, .ref hln, .ref hau, .ref hsu, .ref hrow, .ref hmade, .int z_madeSize, .ref hbase, .int z_baseSize, .ref htx9, .int z_textSize, .int σ.stp, .ref hot, .int z_otherSize, .ref hpc, .int z_pieceSize, .int z_at, .int z_end, .int z_value]))]) [0] rfl
    have hKc := hK.sub (tys' := []) [] rfl
    have hDc := hD.sub (ws' := [(h0, .inr (7, [.int z_thrown, .int 0, .int (vI σ.go), .ref hbu, .int (nI σ.buf.length), .int (nI σ.nd), .ref hgo, .ref hfi, .ref hma, .ref hln, .ref hau, .ref hsu, .ref hrow, .ref hmade, .int z_madeSize, .ref hbase, .int z_baseSize, .ref htx9, .int z_textSize, .int σ.stp, .ref hot, .int z_otherSize, .ref hpc, .int z_pieceSize, .int z_at, .int z_end, .int z_value]))]) [0] (by decide) rfl
    have hFc := va_free (wc := [(h0, .inr (7, [.int z_thrown, .int 0, .int (vI σ.go), .ref hbu, .int (nI σ.buf.length), .int (nI σ.nd), .ref hgo, .ref hfi, .ref hma, .ref hln, .ref hau, .ref hsu, .ref hrow, .ref hmade, .int z_madeSize, .ref hbase, .int z_baseSize, .ref htx9, .int z_textSize, .int σ.stp, .ref hot, .int z_otherSize, .ref hpc, .int z_pieceSize, .int z_at, .int z_end, .int z_value]))]) hD hS hA [0] rfl
    refine va_calli (va_runV (As := [.int 1]) (rest := []) ⟨hx, hb, hml, hown, hw0⟩ (o_runs_U l dC dI s.heap.size h0 z_thrown (vI σ.go) (.ref hbu) (nI σ.buf.length) (nI σ.nd) (.ref hgo) (.ref hfi) (.ref hma) (.ref hln) (.ref hau) (.ref hsu) (.ref hrow) (.ref hmade) z_madeSize (.ref hbase) z_baseSize (.ref htx9) z_textSize σ.stp (.ref hot) z_otherSize (.ref hpc) z_pieceSize z_at z_end z_value 1) (cwV 1 hw0 (gd_Vm wm_358 wm_359 wm_360 wm_243 wm_361) rfl rfl rfl (by decide +kernel) ⟨by decide +kernel, by decide +kernel⟩) (prV_E hPc hKc hDc hN (va_recv hKc hPc (ci := 7) (q0 := 0) rfl rfl)) rfl rfl hl.1 rfl (lv_room (Nat.le_of_ble_eq_true rfl)) d_O_feed_2 ⟨by decide +kernel, by decide +kernel⟩) hS (fun q _ h => hFc q h) hFc (fun r_1 u t H1 locs ht hvm hw hB hz1 hk1 hS => ?_)
    obtain ⟨hP1, hK1, hD1⟩ := hB
    rw [ht] at hP1
    have hK1 := va_K.moved hvm.symm hK1
    try dsimp only at hw
    obtain ⟨hP, hD⟩ := va_join (wr := [(hbu, .inl (cB, 256, .inl (fbu))), (hgo, .inl (cZ, 8, .inl (fg))), (hfi, .inl (cI, 8, .inl (ff))), (hma, .inl (cI, 8, .inl (fm))), (hln, .inl (cL, 512, .inl (fl))), (hau, .inl (cI, 512, .inl (fa))), (hsu, .inl (cI, 512, .inl (fs))), (hrow, .inl (cB, 16384, .inl (fr))), (hmade, .inl (cB, 256, .inl (f))), (hbase, .inl (cB, 256, .inl (fb))), (htx9, .inl (cB, 256, .inl (ft))), (hot, .inl (cB, 256, .inl (fo))), (hpc, .inl (cB, 600, .inl (fp)))]) (w1 := [(h0, .inr (7, [.int 0, .int 0, .int (vI σ.go), .ref hbu, .int (nI σ.buf.length), .int (nI σ.nd), .ref hgo, .ref hfi, .ref hma, .ref hln, .ref hau, .ref hsu, .ref hrow, .ref hmade, .int z_madeSize, .ref hbase, .int z_baseSize, .ref htx9, .int z_textSize, .int σ.stp, .ref hot, .int z_otherSize, .ref hpc, .int z_pieceSize, .int z_at, .int z_end, .int z_value]))]) hP hD [0] [1, 2, 3, 4, 5, 6, 7, 8, 9, 10, 11, 12, 13] rfl rfl (by decide) (by decide) hk1 hFc hP1 hD1
    generalize H1 = H at hP hS ⊢
    replace hP : va_P (dC, dI) vwCl [(hbu, .inl (cB, 256, .inl (fbu))), (hgo, .inl (cZ, 8, .inl (fg))), (hfi, .inl (cI, 8, .inl (ff))), (hma, .inl (cI, 8, .inl (fm))), (hln, .inl (cL, 512, .inl (fl))), (hau, .inl (cI, 512, .inl (fa))), (hsu, .inl (cI, 512, .inl (fs))), (hrow, .inl (cB, 16384, .inl (fr))), (hmade, .inl (cB, 256, .inl (f))), (hbase, .inl (cB, 256, .inl (fb))), (htx9, .inl (cB, 256, .inl (ft))), (hot, .inl (cB, 256, .inl (fo))), (hpc, .inl (cB, 600, .inl (fp))), (h0, .inr (7, [.int 0, .int 0, .int (vI σ.go), .ref hbu, .int (nI σ.buf.length), .int (nI σ.nd), .ref hgo, .ref hfi, .ref hma, .ref hln, .ref hau, .ref hsu, .ref hrow, .ref hmade, .int z_madeSize, .ref hbase, .int z_baseSize, .ref htx9, .int z_textSize, .int σ.stp, .ref hot, .int z_otherSize, .ref hpc, .int z_pieceSize, .int z_at, .int z_end, .int z_value]))] H := hP
    replace hD : va_D A [(hbu, .inl (cB, 256, .inl (fbu))), (hgo, .inl (cZ, 8, .inl (fg))), (hfi, .inl (cI, 8, .inl (ff))), (hma, .inl (cI, 8, .inl (fm))), (hln, .inl (cL, 512, .inl (fl))), (hau, .inl (cI, 512, .inl (fa))), (hsu, .inl (cI, 512, .inl (fs))), (hrow, .inl (cB, 16384, .inl (fr))), (hmade, .inl (cB, 256, .inl (f))), (hbase, .inl (cB, 256, .inl (fb))), (htx9, .inl (cB, 256, .inl (ft))), (hot, .inl (cB, 256, .inl (fo))), (hpc, .inl (cB, 600, .inl (fp))), (h0, .inr (7, [.int 0, .int 0, .int (vI σ.go), .ref hbu, .int (nI σ.buf.length), .int (nI σ.nd), .ref hgo, .ref hfi, .ref hma, .ref hln, .ref hau, .ref hsu, .ref hrow, .ref hmade, .int z_madeSize, .ref hbase, .int z_baseSize, .ref htx9, .int z_textSize, .int σ.stp, .ref hot, .int z_otherSize, .ref hpc, .int z_pieceSize, .int z_at, .int z_end, .int z_value]))] := hD
    replace hK : va_K (dC, dI) vwCl [(cB, .byte), (cI, .int), (cL, .short), (cZ, .boolean)] s := hK
    obtain rfl : r_1 = 1 := hw
    refine lv_if_eq (tgt := 21) hx hb d_O_feed_5 (by decide) (fun h9 => absurd h9 (by decide +kernel)) (fun _ => ?_)
    refine lv_aload_n hx hb d_O_feed_8 rfl (lv_at hl 0 rfl) ?_
    refine va_get (D := (dC, dI)) (ci := 7) (v := .int (nI σ.buf.length)) (C := R_O) (T := F_O) (N := 27) hx hb hw0 in_O hown hK hP 13 rfl rfl 4 (by decide) (hw0 (.fieldLink R_O 69 "TextKeeperModel" "size" "I") wm_245) (fun _ h9 => h9) rfl d_O_feed_9 ?_
    refine lv_bipush (v := 20) hx hb d_O_feed_12 (by decide +kernel) ?_
    refine lv_iadd hx hb d_O_feed_14 ?_
    refine lv_topi (fun x_3 ex_3 => ?_)
    obtain rfl : x_3 = (nI (σ.buf.length + 20)) := by rw [ex_3]; exact nI_add _ 20
    clear ex_3
    refine lv_sipush (v := 256) hx hb d_O_feed_15 (by decide +kernel) ?_
    refine lv_icmp_le (tgt := 23) hx hb d_O_feed_18 (by decide) (fun c_4 => ?_) (fun c_4 => ?_)
    · have hro : σ.buf.length + 20 ≤ 256 := (nI_leI (b := 256) (by omega) (by decide)).mp c_4; have ht0 : tx σ.buf (σ.buf.length + 0) fbu := hm_bf
      refine lv_iconst (v := 0) hx hb d_O_feed_23 (by decide) ?_
      refine lv_istore (lv' := [(6, .int 0), (0, .ref h0), (1, .int a1), (2, .int a2), (3, .int a3), (4, .int a4), (5, .int a5)]) hx hb d_O_feed_24 hl (by decide) rfl (fun ls hl => ?_)
      refine lv_iload hx hb d_O_feed_26 (lv_at hl 0 rfl) ?_
      refine lv_bipush (v := 20) hx hb d_O_feed_28 (by decide +kernel) ?_
      refine lv_icmp_ge (tgt := 120) hx hb d_O_feed_30 (by decide) (fun h9 => absurd h9 (by decide +kernel)) (fun _ => ?_)
      refine lv_iload hx hb d_O_feed_33 (lv_at hl 0 rfl) ?_
      refine lv_iconst (v := 4) hx hb d_O_feed_35 (by decide) ?_
      refine lv_icmp_ge (tgt := 43) hx hb d_O_feed_36 (by decide) (fun h9 => absurd h9 (by decide +kernel)) (fun _ => ?_)
      refine lv_iload_n hx hb d_O_feed_39 rfl (lv_at hl 2 rfl) ?_
      refine lv_goto (tgt := 79) hx hb d_O_feed_40 (by decide) ?_
      refine lv_istore (lv' := [(7, .int a1), (6, .int 0), (0, .ref h0), (1, .int a1), (2, .int a2), (3, .int a3), (4, .int a4), (5, .int a5)]) hx hb d_O_feed_79 hl (by decide) rfl (fun ls hl => ?_)
      refine lv_aload_n hx hb d_O_feed_81 rfl (lv_at hl 2 rfl) ?_
      refine va_get (D := (dC, dI)) (ci := 7) (v := .ref hbu) (C := R_O) (T := F_O) (N := 27) hx hb hw0 in_O hown hK hP 13 rfl rfl 3 (by decide) (hw0 (.fieldLink R_O 13 "TextKeeperModel" "buffer" "[B") wm_247) (fun _ h9 => h9) rfl d_O_feed_82 ?_
      refine lv_aload_n hx hb d_O_feed_85 rfl (lv_at hl 2 rfl) ?_
      refine va_get (D := (dC, dI)) (ci := 7) (v := .int (nI σ.buf.length)) (C := R_O) (T := F_O) (N := 27) hx hb hw0 in_O hown hK hP 13 rfl rfl 4 (by decide) (hw0 (.fieldLink R_O 69 "TextKeeperModel" "size" "I") wm_245) (fun _ h9 => h9) rfl d_O_feed_86 ?_
      refine lv_iload hx hb d_O_feed_89 (lv_at hl 0 rfl) ?_
      refine lv_bipush (v := 24) hx hb d_O_feed_91 (by decide +kernel) ?_
      refine lv_bipush (v := 8) hx hb d_O_feed_93 (by decide +kernel) ?_
      refine lv_iload hx hb d_O_feed_95 (lv_at hl 1 rfl) ?_
      refine lv_iconst (v := 4) hx hb d_O_feed_97 (by decide) ?_
      refine lv_irem hx hb d_O_feed_98 (by decide +kernel) ?_
      refine lv_topi (fun x_5 ex_5 => ?_)
      obtain rfl : x_5 = 0 := ex_5.trans (by decide +kernel)
      clear ex_5
      refine lv_imul hx hb d_O_feed_99 ?_
      refine lv_topi (fun x_6 ex_6 => ?_)
      obtain rfl : x_6 = 0 := ex_6.trans (by decide +kernel)
      clear ex_6
      refine lv_isub hx hb d_O_feed_100 ?_
      refine lv_topi (fun x_7 ex_7 => ?_)
      obtain rfl : x_7 = 24 := ex_7.trans (by decide +kernel)
      clear ex_7
      refine lv_ishr hx hb d_O_feed_101 ?_
      obtain ⟨x_8, ex_8⟩ : ∃ y : Int32, (a1 >>> (24 &&& 31)).toInt8.toInt32 = y := ⟨_, rfl⟩
      refine lv_i2b (v := x_8) hx hb d_O_feed_102 ex_8 ?_
      refine va_bast hx hb hK hP hD hS 0 0 rfl rfl (vp_in_nI (by omega) (by decide)) d_O_feed_103 (fun H locs hP hD hS => ?_)
      replace hP : va_P (dC, dI) vwCl [(hbu, .inl (cB, 256, .inl (upd (fbu) (Int32.toNatClampNeg (nI σ.buf.length)) (vp_nar .byte (x_8))))), (hgo, .inl (cZ, 8, .inl (fg))), (hfi, .inl (cI, 8, .inl (ff))), (hma, .inl (cI, 8, .inl (fm))), (hln, .inl (cL, 512, .inl (fl))), (hau, .inl (cI, 512, .inl (fa))), (hsu, .inl (cI, 512, .inl (fs))), (hrow, .inl (cB, 16384, .inl (fr))), (hmade, .inl (cB, 256, .inl (f))), (hbase, .inl (cB, 256, .inl (fb))), (htx9, .inl (cB, 256, .inl (ft))), (hot, .inl (cB, 256, .inl (fo))), (hpc, .inl (cB, 600, .inl (fp))), (h0, .inr (7, [.int 0, .int 0, .int (vI σ.go), .ref hbu, .int (nI σ.buf.length), .int (nI σ.nd), .ref hgo, .ref hfi, .ref hma, .ref hln, .ref hau, .ref hsu, .ref hrow, .ref hmade, .int z_madeSize, .ref hbase, .int z_baseSize, .ref htx9, .int z_textSize, .int σ.stp, .ref hot, .int z_otherSize, .ref hpc, .int z_pieceSize, .int z_at, .int z_end, .int z_value]))] H := hP
      replace hD : va_D A [(hbu, .inl (cB, 256, .inl (upd (fbu) (Int32.toNatClampNeg (nI σ.buf.length)) (vp_nar .byte (x_8))))), (hgo, .inl (cZ, 8, .inl (fg))), (hfi, .inl (cI, 8, .inl (ff))), (hma, .inl (cI, 8, .inl (fm))), (hln, .inl (cL, 512, .inl (fl))), (hau, .inl (cI, 512, .inl (fa))), (hsu, .inl (cI, 512, .inl (fs))), (hrow, .inl (cB, 16384, .inl (fr))), (hmade, .inl (cB, 256, .inl (f))), (hbase, .inl (cB, 256, .inl (fb))), (htx9, .inl (cB, 256, .inl (ft))), (hot, .inl (cB, 256, .inl (fo))), (hpc, .inl (cB, 600, .inl (fp))), (h0, .inr (7, [.int 0, .int 0, .int (vI σ.go), .ref hbu, .int (nI σ.buf.length), .int (nI σ.nd), .ref hgo, .ref hfi, .ref hma, .ref hln, .ref hau, .ref hsu, .ref hrow, .ref hmade, .int z_madeSize, .ref hbase, .int z_baseSize, .ref htx9, .int z_textSize, .int σ.stp, .ref hot, .int z_otherSize, .ref hpc, .int z_pieceSize, .int z_at, .int z_end, .int z_value]))] := hD
      have eS : upd (fbu) (Int32.toNatClampNeg (nI σ.buf.length)) (vp_nar .byte (x_8)) = upd fbu (σ.buf.length + 0) (nbb (a1 >>> (24 &&& 31))) := by rw [nI_clamp (by omega), ← ex_8]; exact congrArg (upd fbu (σ.buf.length + 0)) (pk_vb _)
      rw [eS] at hP hD
      have ht1 := tx_push ht0 (nbb_B (a1 >>> (24 &&& 31)))
      clear eS
      generalize upd fbu (σ.buf.length + 0) (nbb (a1 >>> (24 &&& 31))) = ff1 at hP hD ht1
      refine lv_aload_n hx hb d_O_feed_104 rfl (lv_at hl 2 rfl) ?_
      refine lv_dup hx hb d_O_feed_105 rfl ?_
      refine va_get (D := (dC, dI)) (ci := 7) (v := .int (nI σ.buf.length)) (C := R_O) (T := F_O) (N := 27) hx hb hw0 in_O hown hK hP 13 rfl rfl 4 (by decide) (hw0 (.fieldLink R_O 69 "TextKeeperModel" "size" "I") wm_245) (fun _ h9 => h9) rfl d_O_feed_106 ?_
      refine lv_iconst (v := 1) hx hb d_O_feed_109 (by decide) ?_
      refine lv_iadd hx hb d_O_feed_110 ?_
      refine lv_topi (fun x_9 ex_9 => ?_)
      obtain rfl : x_9 = (nI (σ.buf.length + 1)) := by rw [ex_9]; exact nI_1 _
      clear ex_9
      refine va_put (D := (dC, dI)) (ci := 7) (v := .int (nI (σ.buf.length + 1))) (ty := .int) (C := R_O) (T := F_O) (N := 27) hx hb hw0 in_O ft_O tk_O nk_O hown hK hP hD hS 13 rfl rfl 4 (by decide) (hw0 (.fieldLink R_O 69 "TextKeeperModel" "size" "I") wm_245) (fun _ h9 => h9) rfl (by decide +kernel) rfl rfl (Nat.le_of_ble_eq_true rfl) d_O_feed_111 (fun H locs hP hD hS => ?_)
      replace hP : va_P (dC, dI) vwCl [(hbu, .inl (cB, 256, .inl (ff1))), (hgo, .inl (cZ, 8, .inl (fg))), (hfi, .inl (cI, 8, .inl (ff))), (hma, .inl (cI, 8, .inl (fm))), (hln, .inl (cL, 512, .inl (fl))), (hau, .inl (cI, 512, .inl (fa))), (hsu, .inl (cI, 512, .inl (fs))), (hrow, .inl (cB, 16384, .inl (fr))), (hmade, .inl (cB, 256, .inl (f))), (hbase, .inl (cB, 256, .inl (fb))), (htx9, .inl (cB, 256, .inl (ft))), (hot, .inl (cB, 256, .inl (fo))), (hpc, .inl (cB, 600, .inl (fp))), (h0, .inr (7, [.int 0, .int 0, .int (vI σ.go), .ref hbu, .int (nI (σ.buf.length + 1)), .int (nI σ.nd), .ref hgo, .ref hfi, .ref hma, .ref hln, .ref hau, .ref hsu, .ref hrow, .ref hmade, .int z_madeSize, .ref hbase, .int z_baseSize, .ref htx9, .int z_textSize, .int σ.stp, .ref hot, .int z_otherSize, .ref hpc, .int z_pieceSize, .int z_at, .int z_end, .int z_value]))] H := hP
      replace hD : va_D A [(hbu, .inl (cB, 256, .inl (ff1))), (hgo, .inl (cZ, 8, .inl (fg))), (hfi, .inl (cI, 8, .inl (ff))), (hma, .inl (cI, 8, .inl (fm))), (hln, .inl (cL, 512, .inl (fl))), (hau, .inl (cI, 512, .inl (fa))), (hsu, .inl (cI, 512, .inl (fs))), (hrow, .inl (cB, 16384, .inl (fr))), (hmade, .inl (cB, 256, .inl (f))), (hbase, .inl (cB, 256, .inl (fb))), (htx9, .inl (cB, 256, .inl (ft))), (hot, .inl (cB, 256, .inl (fo))), (hpc, .inl (cB, 600, .inl (fp))), (h0, .inr (7, [.int 0, .int 0, .int (vI σ.go), .ref hbu, .int (nI (σ.buf.length + 1)), .int (nI σ.nd), .ref hgo, .ref hfi, .ref hma, .ref hln, .ref hau, .ref hsu, .ref hrow, .ref hmade, .int z_madeSize, .ref hbase, .int z_baseSize, .ref htx9, .int z_textSize, .int σ.stp, .ref hot, .int z_otherSize, .ref hpc, .int z_pieceSize, .int z_at, .int z_end, .int z_value]))] := hD
      refine lv_iinc (v := 1) (lv' := [(6, .int 1), (7, .int a1), (0, .ref h0), (1, .int a1), (2, .int a2), (3, .int a3), (4, .int a4), (5, .int a5)]) hx hb d_O_feed_114 hl (k := 1) rfl (by decide +kernel) (by decide) rfl (fun ls hl => ?_)
      refine lv_goto (tgt := 26) hx hb d_O_feed_117 (by decide) ?_
      refine lv_iload hx hb d_O_feed_26 (lv_at hl 0 rfl) ?_
      refine lv_bipush (v := 20) hx hb d_O_feed_28 (by decide +kernel) ?_
      refine lv_icmp_ge (tgt := 120) hx hb d_O_feed_30 (by decide) (fun h9 => absurd h9 (by decide +kernel)) (fun _ => ?_)
      refine lv_iload hx hb d_O_feed_33 (lv_at hl 0 rfl) ?_
      refine lv_iconst (v := 4) hx hb d_O_feed_35 (by decide) ?_
      refine lv_icmp_ge (tgt := 43) hx hb d_O_feed_36 (by decide) (fun h9 => absurd h9 (by decide +kernel)) (fun _ => ?_)
      refine lv_iload_n hx hb d_O_feed_39 rfl (lv_at hl 3 rfl) ?_
      refine lv_goto (tgt := 79) hx hb d_O_feed_40 (by decide) ?_
      refine lv_istore (lv' := [(7, .int a1), (6, .int 1), (0, .ref h0), (1, .int a1), (2, .int a2), (3, .int a3), (4, .int a4), (5, .int a5)]) hx hb d_O_feed_79 hl (by decide) rfl (fun ls hl => ?_)
      refine lv_aload_n hx hb d_O_feed_81 rfl (lv_at hl 2 rfl) ?_
      refine va_get (D := (dC, dI)) (ci := 7) (v := .ref hbu) (C := R_O) (T := F_O) (N := 27) hx hb hw0 in_O hown hK hP 13 rfl rfl 3 (by decide) (hw0 (.fieldLink R_O 13 "TextKeeperModel" "buffer" "[B") wm_247) (fun _ h9 => h9) rfl d_O_feed_82 ?_
      refine lv_aload_n hx hb d_O_feed_85 rfl (lv_at hl 2 rfl) ?_
      refine va_get (D := (dC, dI)) (ci := 7) (v := .int (nI (σ.buf.length + 1))) (C := R_O) (T := F_O) (N := 27) hx hb hw0 in_O hown hK hP 13 rfl rfl 4 (by decide) (hw0 (.fieldLink R_O 69 "TextKeeperModel" "size" "I") wm_245) (fun _ h9 => h9) rfl d_O_feed_86 ?_
      refine lv_iload hx hb d_O_feed_89 (lv_at hl 0 rfl) ?_
      refine lv_bipush (v := 24) hx hb d_O_feed_91 (by decide +kernel) ?_
      refine lv_bipush (v := 8) hx hb d_O_feed_93 (by decide +kernel) ?_
      refine lv_iload hx hb d_O_feed_95 (lv_at hl 1 rfl) ?_
      refine lv_iconst (v := 4) hx hb d_O_feed_97 (by decide) ?_
      refine lv_irem hx hb d_O_feed_98 (by decide +kernel) ?_
      refine lv_topi (fun x_10 ex_10 => ?_)
      obtain rfl : x_10 = 1 := ex_10.trans (by decide +kernel)
      clear ex_10
      refine lv_imul hx hb d_O_feed_99 ?_
      refine lv_topi (fun x_11 ex_11 => ?_)
      obtain rfl : x_11 = 8 := ex_11.trans (by decide +kernel)
      clear ex_11
      refine lv_isub hx hb d_O_feed_100 ?_
      refine lv_topi (fun x_12 ex_12 => ?_)
      obtain rfl : x_12 = 16 := ex_12.trans (by decide +kernel)
      clear ex_12
      refine lv_ishr hx hb d_O_feed_101 ?_
      obtain ⟨x_13, ex_13⟩ : ∃ y : Int32, (a1 >>> (16 &&& 31)).toInt8.toInt32 = y := ⟨_, rfl⟩
      refine lv_i2b (v := x_13) hx hb d_O_feed_102 ex_13 ?_
      refine va_bast hx hb hK hP hD hS 0 0 rfl rfl (vp_in_nI (by omega) (by decide)) d_O_feed_103 (fun H locs hP hD hS => ?_)
      replace hP : va_P (dC, dI) vwCl [(hbu, .inl (cB, 256, .inl (upd (ff1) (Int32.toNatClampNeg (nI (σ.buf.length + 1))) (vp_nar .byte (x_13))))), (hgo, .inl (cZ, 8, .inl (fg))), (hfi, .inl (cI, 8, .inl (ff))), (hma, .inl (cI, 8, .inl (fm))), (hln, .inl (cL, 512, .inl (fl))), (hau, .inl (cI, 512, .inl (fa))), (hsu, .inl (cI, 512, .inl (fs))), (hrow, .inl (cB, 16384, .inl (fr))), (hmade, .inl (cB, 256, .inl (f))), (hbase, .inl (cB, 256, .inl (fb))), (htx9, .inl (cB, 256, .inl (ft))), (hot, .inl (cB, 256, .inl (fo))), (hpc, .inl (cB, 600, .inl (fp))), (h0, .inr (7, [.int 0, .int 0, .int (vI σ.go), .ref hbu, .int (nI (σ.buf.length + 1)), .int (nI σ.nd), .ref hgo, .ref hfi, .ref hma, .ref hln, .ref hau, .ref hsu, .ref hrow, .ref hmade, .int z_madeSize, .ref hbase, .int z_baseSize, .ref htx9, .int z_textSize, .int σ.stp, .ref hot, .int z_otherSize, .ref hpc, .int z_pieceSize, .int z_at, .int z_end, .int z_value]))] H := hP
      replace hD : va_D A [(hbu, .inl (cB, 256, .inl (upd (ff1) (Int32.toNatClampNeg (nI (σ.buf.length + 1))) (vp_nar .byte (x_13))))), (hgo, .inl (cZ, 8, .inl (fg))), (hfi, .inl (cI, 8, .inl (ff))), (hma, .inl (cI, 8, .inl (fm))), (hln, .inl (cL, 512, .inl (fl))), (hau, .inl (cI, 512, .inl (fa))), (hsu, .inl (cI, 512, .inl (fs))), (hrow, .inl (cB, 16384, .inl (fr))), (hmade, .inl (cB, 256, .inl (f))), (hbase, .inl (cB, 256, .inl (fb))), (htx9, .inl (cB, 256, .inl (ft))), (hot, .inl (cB, 256, .inl (fo))), (hpc, .inl (cB, 600, .inl (fp))), (h0, .inr (7, [.int 0, .int 0, .int (vI σ.go), .ref hbu, .int (nI (σ.buf.length + 1)), .int (nI σ.nd), .ref hgo, .ref hfi, .ref hma, .ref hln, .ref hau, .ref hsu, .ref hrow, .ref hmade, .int z_madeSize, .ref hbase, .int z_baseSize, .ref htx9, .int z_textSize, .int σ.stp, .ref hot, .int z_otherSize, .ref hpc, .int z_pieceSize, .int z_at, .int z_end, .int z_value]))] := hD
      have eS : upd (ff1) (Int32.toNatClampNeg (nI (σ.buf.length + 1))) (vp_nar .byte (x_13)) = upd ff1 (σ.buf.length + 1) (nbb (a1 >>> (16 &&& 31))) := by rw [nI_clamp (by omega), ← ex_13]; exact congrArg (upd ff1 (σ.buf.length + 1)) (pk_vb _)
      rw [eS] at hP hD
      have ht2 := tx_push ht1 (nbb_B (a1 >>> (16 &&& 31)))
      clear eS
      generalize upd ff1 (σ.buf.length + 1) (nbb (a1 >>> (16 &&& 31))) = ff2 at hP hD ht2
      refine lv_aload_n hx hb d_O_feed_104 rfl (lv_at hl 2 rfl) ?_
      refine lv_dup hx hb d_O_feed_105 rfl ?_
      refine va_get (D := (dC, dI)) (ci := 7) (v := .int (nI (σ.buf.length + 1))) (C := R_O) (T := F_O) (N := 27) hx hb hw0 in_O hown hK hP 13 rfl rfl 4 (by decide) (hw0 (.fieldLink R_O 69 "TextKeeperModel" "size" "I") wm_245) (fun _ h9 => h9) rfl d_O_feed_106 ?_
      refine lv_iconst (v := 1) hx hb d_O_feed_109 (by decide) ?_
      refine lv_iadd hx hb d_O_feed_110 ?_
      refine lv_topi (fun x_14 ex_14 => ?_)
      obtain rfl : x_14 = (nI (σ.buf.length + 2)) := by rw [ex_14]; exact nI_1 _
      clear ex_14
      refine va_put (D := (dC, dI)) (ci := 7) (v := .int (nI (σ.buf.length + 2))) (ty := .int) (C := R_O) (T := F_O) (N := 27) hx hb hw0 in_O ft_O tk_O nk_O hown hK hP hD hS 13 rfl rfl 4 (by decide) (hw0 (.fieldLink R_O 69 "TextKeeperModel" "size" "I") wm_245) (fun _ h9 => h9) rfl (by decide +kernel) rfl rfl (Nat.le_of_ble_eq_true rfl) d_O_feed_111 (fun H locs hP hD hS => ?_)
      replace hP : va_P (dC, dI) vwCl [(hbu, .inl (cB, 256, .inl (ff2))), (hgo, .inl (cZ, 8, .inl (fg))), (hfi, .inl (cI, 8, .inl (ff))), (hma, .inl (cI, 8, .inl (fm))), (hln, .inl (cL, 512, .inl (fl))), (hau, .inl (cI, 512, .inl (fa))), (hsu, .inl (cI, 512, .inl (fs))), (hrow, .inl (cB, 16384, .inl (fr))), (hmade, .inl (cB, 256, .inl (f))), (hbase, .inl (cB, 256, .inl (fb))), (htx9, .inl (cB, 256, .inl (ft))), (hot, .inl (cB, 256, .inl (fo))), (hpc, .inl (cB, 600, .inl (fp))), (h0, .inr (7, [.int 0, .int 0, .int (vI σ.go), .ref hbu, .int (nI (σ.buf.length + 2)), .int (nI σ.nd), .ref hgo, .ref hfi, .ref hma, .ref hln, .ref hau, .ref hsu, .ref hrow, .ref hmade, .int z_madeSize, .ref hbase, .int z_baseSize, .ref htx9, .int z_textSize, .int σ.stp, .ref hot, .int z_otherSize, .ref hpc, .int z_pieceSize, .int z_at, .int z_end, .int z_value]))] H := hP
      replace hD : va_D A [(hbu, .inl (cB, 256, .inl (ff2))), (hgo, .inl (cZ, 8, .inl (fg))), (hfi, .inl (cI, 8, .inl (ff))), (hma, .inl (cI, 8, .inl (fm))), (hln, .inl (cL, 512, .inl (fl))), (hau, .inl (cI, 512, .inl (fa))), (hsu, .inl (cI, 512, .inl (fs))), (hrow, .inl (cB, 16384, .inl (fr))), (hmade, .inl (cB, 256, .inl (f))), (hbase, .inl (cB, 256, .inl (fb))), (htx9, .inl (cB, 256, .inl (ft))), (hot, .inl (cB, 256, .inl (fo))), (hpc, .inl (cB, 600, .inl (fp))), (h0, .inr (7, [.int 0, .int 0, .int (vI σ.go), .ref hbu, .int (nI (σ.buf.length + 2)), .int (nI σ.nd), .ref hgo, .ref hfi, .ref hma, .ref hln, .ref hau, .ref hsu, .ref hrow, .ref hmade, .int z_madeSize, .ref hbase, .int z_baseSize, .ref htx9, .int z_textSize, .int σ.stp, .ref hot, .int z_otherSize, .ref hpc, .int z_pieceSize, .int z_at, .int z_end, .int z_value]))] := hD
      refine lv_iinc (v := 2) (lv' := [(6, .int 2), (7, .int a1), (0, .ref h0), (1, .int a1), (2, .int a2), (3, .int a3), (4, .int a4), (5, .int a5)]) hx hb d_O_feed_114 hl (k := 1) rfl (by decide +kernel) (by decide) rfl (fun ls hl => ?_)
      refine lv_goto (tgt := 26) hx hb d_O_feed_117 (by decide) ?_
      refine lv_iload hx hb d_O_feed_26 (lv_at hl 0 rfl) ?_
      refine lv_bipush (v := 20) hx hb d_O_feed_28 (by decide +kernel) ?_
      refine lv_icmp_ge (tgt := 120) hx hb d_O_feed_30 (by decide) (fun h9 => absurd h9 (by decide +kernel)) (fun _ => ?_)
      refine lv_iload hx hb d_O_feed_33 (lv_at hl 0 rfl) ?_
      refine lv_iconst (v := 4) hx hb d_O_feed_35 (by decide) ?_
      refine lv_icmp_ge (tgt := 43) hx hb d_O_feed_36 (by decide) (fun h9 => absurd h9 (by decide +kernel)) (fun _ => ?_)
      refine lv_iload_n hx hb d_O_feed_39 rfl (lv_at hl 3 rfl) ?_
      refine lv_goto (tgt := 79) hx hb d_O_feed_40 (by decide) ?_
      refine lv_istore (lv' := [(7, .int a1), (6, .int 2), (0, .ref h0), (1, .int a1), (2, .int a2), (3, .int a3), (4, .int a4), (5, .int a5)]) hx hb d_O_feed_79 hl (by decide) rfl (fun ls hl => ?_)
      refine lv_aload_n hx hb d_O_feed_81 rfl (lv_at hl 2 rfl) ?_
      refine va_get (D := (dC, dI)) (ci := 7) (v := .ref hbu) (C := R_O) (T := F_O) (N := 27) hx hb hw0 in_O hown hK hP 13 rfl rfl 3 (by decide) (hw0 (.fieldLink R_O 13 "TextKeeperModel" "buffer" "[B") wm_247) (fun _ h9 => h9) rfl d_O_feed_82 ?_
      refine lv_aload_n hx hb d_O_feed_85 rfl (lv_at hl 2 rfl) ?_
      refine va_get (D := (dC, dI)) (ci := 7) (v := .int (nI (σ.buf.length + 2))) (C := R_O) (T := F_O) (N := 27) hx hb hw0 in_O hown hK hP 13 rfl rfl 4 (by decide) (hw0 (.fieldLink R_O 69 "TextKeeperModel" "size" "I") wm_245) (fun _ h9 => h9) rfl d_O_feed_86 ?_
      refine lv_iload hx hb d_O_feed_89 (lv_at hl 0 rfl) ?_
      refine lv_bipush (v := 24) hx hb d_O_feed_91 (by decide +kernel) ?_
      refine lv_bipush (v := 8) hx hb d_O_feed_93 (by decide +kernel) ?_
      refine lv_iload hx hb d_O_feed_95 (lv_at hl 1 rfl) ?_
      refine lv_iconst (v := 4) hx hb d_O_feed_97 (by decide) ?_
      refine lv_irem hx hb d_O_feed_98 (by decide +kernel) ?_
      refine lv_topi (fun x_15 ex_15 => ?_)
      obtain rfl : x_15 = 2 := ex_15.trans (by decide +kernel)
      clear ex_15
      refine lv_imul hx hb d_O_feed_99 ?_
      refine lv_topi (fun x_16 ex_16 => ?_)
      obtain rfl : x_16 = 16 := ex_16.trans (by decide +kernel)
      clear ex_16
      refine lv_isub hx hb d_O_feed_100 ?_
      refine lv_topi (fun x_17 ex_17 => ?_)
      obtain rfl : x_17 = 8 := ex_17.trans (by decide +kernel)
      clear ex_17
      refine lv_ishr hx hb d_O_feed_101 ?_
      obtain ⟨x_18, ex_18⟩ : ∃ y : Int32, (a1 >>> (8 &&& 31)).toInt8.toInt32 = y := ⟨_, rfl⟩
      refine lv_i2b (v := x_18) hx hb d_O_feed_102 ex_18 ?_
      refine va_bast hx hb hK hP hD hS 0 0 rfl rfl (vp_in_nI (by omega) (by decide)) d_O_feed_103 (fun H locs hP hD hS => ?_)
      replace hP : va_P (dC, dI) vwCl [(hbu, .inl (cB, 256, .inl (upd (ff2) (Int32.toNatClampNeg (nI (σ.buf.length + 2))) (vp_nar .byte (x_18))))), (hgo, .inl (cZ, 8, .inl (fg))), (hfi, .inl (cI, 8, .inl (ff))), (hma, .inl (cI, 8, .inl (fm))), (hln, .inl (cL, 512, .inl (fl))), (hau, .inl (cI, 512, .inl (fa))), (hsu, .inl (cI, 512, .inl (fs))), (hrow, .inl (cB, 16384, .inl (fr))), (hmade, .inl (cB, 256, .inl (f))), (hbase, .inl (cB, 256, .inl (fb))), (htx9, .inl (cB, 256, .inl (ft))), (hot, .inl (cB, 256, .inl (fo))), (hpc, .inl (cB, 600, .inl (fp))), (h0, .inr (7, [.int 0, .int 0, .int (vI σ.go), .ref hbu, .int (nI (σ.buf.length + 2)), .int (nI σ.nd), .ref hgo, .ref hfi, .ref hma, .ref hln, .ref hau, .ref hsu, .ref hrow, .ref hmade, .int z_madeSize, .ref hbase, .int z_baseSize, .ref htx9, .int z_textSize, .int σ.stp, .ref hot, .int z_otherSize, .ref hpc, .int z_pieceSize, .int z_at, .int z_end, .int z_value]))] H := hP
      replace hD : va_D A [(hbu, .inl (cB, 256, .inl (upd (ff2) (Int32.toNatClampNeg (nI (σ.buf.length + 2))) (vp_nar .byte (x_18))))), (hgo, .inl (cZ, 8, .inl (fg))), (hfi, .inl (cI, 8, .inl (ff))), (hma, .inl (cI, 8, .inl (fm))), (hln, .inl (cL, 512, .inl (fl))), (hau, .inl (cI, 512, .inl (fa))), (hsu, .inl (cI, 512, .inl (fs))), (hrow, .inl (cB, 16384, .inl (fr))), (hmade, .inl (cB, 256, .inl (f))), (hbase, .inl (cB, 256, .inl (fb))), (htx9, .inl (cB, 256, .inl (ft))), (hot, .inl (cB, 256, .inl (fo))), (hpc, .inl (cB, 600, .inl (fp))), (h0, .inr (7, [.int 0, .int 0, .int (vI σ.go), .ref hbu, .int (nI (σ.buf.length + 2)), .int (nI σ.nd), .ref hgo, .ref hfi, .ref hma, .ref hln, .ref hau, .ref hsu, .ref hrow, .ref hmade, .int z_madeSize, .ref hbase, .int z_baseSize, .ref htx9, .int z_textSize, .int σ.stp, .ref hot, .int z_otherSize, .ref hpc, .int z_pieceSize, .int z_at, .int z_end, .int z_value]))] := hD
      have eS : upd (ff2) (Int32.toNatClampNeg (nI (σ.buf.length + 2))) (vp_nar .byte (x_18)) = upd ff2 (σ.buf.length + 2) (nbb (a1 >>> (8 &&& 31))) := by rw [nI_clamp (by omega), ← ex_18]; exact congrArg (upd ff2 (σ.buf.length + 2)) (pk_vb _)
      rw [eS] at hP hD
      have ht3 := tx_push ht2 (nbb_B (a1 >>> (8 &&& 31)))
      clear eS
      generalize upd ff2 (σ.buf.length + 2) (nbb (a1 >>> (8 &&& 31))) = ff3 at hP hD ht3
      refine lv_aload_n hx hb d_O_feed_104 rfl (lv_at hl 2 rfl) ?_
      refine lv_dup hx hb d_O_feed_105 rfl ?_
      refine va_get (D := (dC, dI)) (ci := 7) (v := .int (nI (σ.buf.length + 2))) (C := R_O) (T := F_O) (N := 27) hx hb hw0 in_O hown hK hP 13 rfl rfl 4 (by decide) (hw0 (.fieldLink R_O 69 "TextKeeperModel" "size" "I") wm_245) (fun _ h9 => h9) rfl d_O_feed_106 ?_
      refine lv_iconst (v := 1) hx hb d_O_feed_109 (by decide) ?_
      refine lv_iadd hx hb d_O_feed_110 ?_
      refine lv_topi (fun x_19 ex_19 => ?_)
      obtain rfl : x_19 = (nI (σ.buf.length + 3)) := by rw [ex_19]; exact nI_1 _
      clear ex_19
      refine va_put (D := (dC, dI)) (ci := 7) (v := .int (nI (σ.buf.length + 3))) (ty := .int) (C := R_O) (T := F_O) (N := 27) hx hb hw0 in_O ft_O tk_O nk_O hown hK hP hD hS 13 rfl rfl 4 (by decide) (hw0 (.fieldLink R_O 69 "TextKeeperModel" "size" "I") wm_245) (fun _ h9 => h9) rfl (by decide +kernel) rfl rfl (Nat.le_of_ble_eq_true rfl) d_O_feed_111 (fun H locs hP hD hS => ?_)
      replace hP : va_P (dC, dI) vwCl [(hbu, .inl (cB, 256, .inl (ff3))), (hgo, .inl (cZ, 8, .inl (fg))), (hfi, .inl (cI, 8, .inl (ff))), (hma, .inl (cI, 8, .inl (fm))), (hln, .inl (cL, 512, .inl (fl))), (hau, .inl (cI, 512, .inl (fa))), (hsu, .inl (cI, 512, .inl (fs))), (hrow, .inl (cB, 16384, .inl (fr))), (hmade, .inl (cB, 256, .inl (f))), (hbase, .inl (cB, 256, .inl (fb))), (htx9, .inl (cB, 256, .inl (ft))), (hot, .inl (cB, 256, .inl (fo))), (hpc, .inl (cB, 600, .inl (fp))), (h0, .inr (7, [.int 0, .int 0, .int (vI σ.go), .ref hbu, .int (nI (σ.buf.length + 3)), .int (nI σ.nd), .ref hgo, .ref hfi, .ref hma, .ref hln, .ref hau, .ref hsu, .ref hrow, .ref hmade, .int z_madeSize, .ref hbase, .int z_baseSize, .ref htx9, .int z_textSize, .int σ.stp, .ref hot, .int z_otherSize, .ref hpc, .int z_pieceSize, .int z_at, .int z_end, .int z_value]))] H := hP
      replace hD : va_D A [(hbu, .inl (cB, 256, .inl (ff3))), (hgo, .inl (cZ, 8, .inl (fg))), (hfi, .inl (cI, 8, .inl (ff))), (hma, .inl (cI, 8, .inl (fm))), (hln, .inl (cL, 512, .inl (fl))), (hau, .inl (cI, 512, .inl (fa))), (hsu, .inl (cI, 512, .inl (fs))), (hrow, .inl (cB, 16384, .inl (fr))), (hmade, .inl (cB, 256, .inl (f))), (hbase, .inl (cB, 256, .inl (fb))), (htx9, .inl (cB, 256, .inl (ft))), (hot, .inl (cB, 256, .inl (fo))), (hpc, .inl (cB, 600, .inl (fp))), (h0, .inr (7, [.int 0, .int 0, .int (vI σ.go), .ref hbu, .int (nI (σ.buf.length + 3)), .int (nI σ.nd), .ref hgo, .ref hfi, .ref hma, .ref hln, .ref hau, .ref hsu, .ref hrow, .ref hmade, .int z_madeSize, .ref hbase, .int z_baseSize, .ref htx9, .int z_textSize, .int σ.stp, .ref hot, .int z_otherSize, .ref hpc, .int z_pieceSize, .int z_at, .int z_end, .int z_value]))] := hD
      refine lv_iinc (v := 3) (lv' := [(6, .int 3), (7, .int a1), (0, .ref h0), (1, .int a1), (2, .int a2), (3, .int a3), (4, .int a4), (5, .int a5)]) hx hb d_O_feed_114 hl (k := 1) rfl (by decide +kernel) (by decide) rfl (fun ls hl => ?_)
      refine lv_goto (tgt := 26) hx hb d_O_feed_117 (by decide) ?_
      refine lv_iload hx hb d_O_feed_26 (lv_at hl 0 rfl) ?_
      refine lv_bipush (v := 20) hx hb d_O_feed_28 (by decide +kernel) ?_
      refine lv_icmp_ge (tgt := 120) hx hb d_O_feed_30 (by decide) (fun h9 => absurd h9 (by decide +kernel)) (fun _ => ?_)
      refine lv_iload hx hb d_O_feed_33 (lv_at hl 0 rfl) ?_
      refine lv_iconst (v := 4) hx hb d_O_feed_35 (by decide) ?_
      refine lv_icmp_ge (tgt := 43) hx hb d_O_feed_36 (by decide) (fun h9 => absurd h9 (by decide +kernel)) (fun _ => ?_)
      refine lv_iload_n hx hb d_O_feed_39 rfl (lv_at hl 3 rfl) ?_
      refine lv_goto (tgt := 79) hx hb d_O_feed_40 (by decide) ?_
      refine lv_istore (lv' := [(7, .int a1), (6, .int 3), (0, .ref h0), (1, .int a1), (2, .int a2), (3, .int a3), (4, .int a4), (5, .int a5)]) hx hb d_O_feed_79 hl (by decide) rfl (fun ls hl => ?_)
      refine lv_aload_n hx hb d_O_feed_81 rfl (lv_at hl 2 rfl) ?_
      refine va_get (D := (dC, dI)) (ci := 7) (v := .ref hbu) (C := R_O) (T := F_O) (N := 27) hx hb hw0 in_O hown hK hP 13 rfl rfl 3 (by decide) (hw0 (.fieldLink R_O 13 "TextKeeperModel" "buffer" "[B") wm_247) (fun _ h9 => h9) rfl d_O_feed_82 ?_
      refine lv_aload_n hx hb d_O_feed_85 rfl (lv_at hl 2 rfl) ?_
      refine va_get (D := (dC, dI)) (ci := 7) (v := .int (nI (σ.buf.length + 3))) (C := R_O) (T := F_O) (N := 27) hx hb hw0 in_O hown hK hP 13 rfl rfl 4 (by decide) (hw0 (.fieldLink R_O 69 "TextKeeperModel" "size" "I") wm_245) (fun _ h9 => h9) rfl d_O_feed_86 ?_
      refine lv_iload hx hb d_O_feed_89 (lv_at hl 0 rfl) ?_
      refine lv_bipush (v := 24) hx hb d_O_feed_91 (by decide +kernel) ?_
      refine lv_bipush (v := 8) hx hb d_O_feed_93 (by decide +kernel) ?_
      refine lv_iload hx hb d_O_feed_95 (lv_at hl 1 rfl) ?_
      refine lv_iconst (v := 4) hx hb d_O_feed_97 (by decide) ?_
      refine lv_irem hx hb d_O_feed_98 (by decide +kernel) ?_
      refine lv_topi (fun x_20 ex_20 => ?_)
      obtain rfl : x_20 = 3 := ex_20.trans (by decide +kernel)
      clear ex_20
      refine lv_imul hx hb d_O_feed_99 ?_
      refine lv_topi (fun x_21 ex_21 => ?_)
      obtain rfl : x_21 = 24 := ex_21.trans (by decide +kernel)
      clear ex_21
      refine lv_isub hx hb d_O_feed_100 ?_
      refine lv_topi (fun x_22 ex_22 => ?_)
      obtain rfl : x_22 = 0 := ex_22.trans (by decide +kernel)
      clear ex_22
      refine lv_ishr hx hb d_O_feed_101 ?_
      obtain ⟨x_23, ex_23⟩ : ∃ y : Int32, (a1 >>> (0 &&& 31)).toInt8.toInt32 = y := ⟨_, rfl⟩
      refine lv_i2b (v := x_23) hx hb d_O_feed_102 ex_23 ?_
      refine va_bast hx hb hK hP hD hS 0 0 rfl rfl (vp_in_nI (by omega) (by decide)) d_O_feed_103 (fun H locs hP hD hS => ?_)
      replace hP : va_P (dC, dI) vwCl [(hbu, .inl (cB, 256, .inl (upd (ff3) (Int32.toNatClampNeg (nI (σ.buf.length + 3))) (vp_nar .byte (x_23))))), (hgo, .inl (cZ, 8, .inl (fg))), (hfi, .inl (cI, 8, .inl (ff))), (hma, .inl (cI, 8, .inl (fm))), (hln, .inl (cL, 512, .inl (fl))), (hau, .inl (cI, 512, .inl (fa))), (hsu, .inl (cI, 512, .inl (fs))), (hrow, .inl (cB, 16384, .inl (fr))), (hmade, .inl (cB, 256, .inl (f))), (hbase, .inl (cB, 256, .inl (fb))), (htx9, .inl (cB, 256, .inl (ft))), (hot, .inl (cB, 256, .inl (fo))), (hpc, .inl (cB, 600, .inl (fp))), (h0, .inr (7, [.int 0, .int 0, .int (vI σ.go), .ref hbu, .int (nI (σ.buf.length + 3)), .int (nI σ.nd), .ref hgo, .ref hfi, .ref hma, .ref hln, .ref hau, .ref hsu, .ref hrow, .ref hmade, .int z_madeSize, .ref hbase, .int z_baseSize, .ref htx9, .int z_textSize, .int σ.stp, .ref hot, .int z_otherSize, .ref hpc, .int z_pieceSize, .int z_at, .int z_end, .int z_value]))] H := hP
      replace hD : va_D A [(hbu, .inl (cB, 256, .inl (upd (ff3) (Int32.toNatClampNeg (nI (σ.buf.length + 3))) (vp_nar .byte (x_23))))), (hgo, .inl (cZ, 8, .inl (fg))), (hfi, .inl (cI, 8, .inl (ff))), (hma, .inl (cI, 8, .inl (fm))), (hln, .inl (cL, 512, .inl (fl))), (hau, .inl (cI, 512, .inl (fa))), (hsu, .inl (cI, 512, .inl (fs))), (hrow, .inl (cB, 16384, .inl (fr))), (hmade, .inl (cB, 256, .inl (f))), (hbase, .inl (cB, 256, .inl (fb))), (htx9, .inl (cB, 256, .inl (ft))), (hot, .inl (cB, 256, .inl (fo))), (hpc, .inl (cB, 600, .inl (fp))), (h0, .inr (7, [.int 0, .int 0, .int (vI σ.go), .ref hbu, .int (nI (σ.buf.length + 3)), .int (nI σ.nd), .ref hgo, .ref hfi, .ref hma, .ref hln, .ref hau, .ref hsu, .ref hrow, .ref hmade, .int z_madeSize, .ref hbase, .int z_baseSize, .ref htx9, .int z_textSize, .int σ.stp, .ref hot, .int z_otherSize, .ref hpc, .int z_pieceSize, .int z_at, .int z_end, .int z_value]))] := hD
      have eS : upd (ff3) (Int32.toNatClampNeg (nI (σ.buf.length + 3))) (vp_nar .byte (x_23)) = upd ff3 (σ.buf.length + 3) (nbb (a1 >>> (0 &&& 31))) := by rw [nI_clamp (by omega), ← ex_23]; exact congrArg (upd ff3 (σ.buf.length + 3)) (pk_vb _)
      rw [eS] at hP hD
      have ht4 := tx_push ht3 (nbb_B (a1 >>> (0 &&& 31)))
      clear eS
      generalize upd ff3 (σ.buf.length + 3) (nbb (a1 >>> (0 &&& 31))) = ff4 at hP hD ht4
      refine lv_aload_n hx hb d_O_feed_104 rfl (lv_at hl 2 rfl) ?_
      refine lv_dup hx hb d_O_feed_105 rfl ?_
      refine va_get (D := (dC, dI)) (ci := 7) (v := .int (nI (σ.buf.length + 3))) (C := R_O) (T := F_O) (N := 27) hx hb hw0 in_O hown hK hP 13 rfl rfl 4 (by decide) (hw0 (.fieldLink R_O 69 "TextKeeperModel" "size" "I") wm_245) (fun _ h9 => h9) rfl d_O_feed_106 ?_
      refine lv_iconst (v := 1) hx hb d_O_feed_109 (by decide) ?_
      refine lv_iadd hx hb d_O_feed_110 ?_
      refine lv_topi (fun x_24 ex_24 => ?_)
      obtain rfl : x_24 = (nI (σ.buf.length + 4)) := by rw [ex_24]; exact nI_1 _
      clear ex_24
      refine va_put (D := (dC, dI)) (ci := 7) (v := .int (nI (σ.buf.length + 4))) (ty := .int) (C := R_O) (T := F_O) (N := 27) hx hb hw0 in_O ft_O tk_O nk_O hown hK hP hD hS 13 rfl rfl 4 (by decide) (hw0 (.fieldLink R_O 69 "TextKeeperModel" "size" "I") wm_245) (fun _ h9 => h9) rfl (by decide +kernel) rfl rfl (Nat.le_of_ble_eq_true rfl) d_O_feed_111 (fun H locs hP hD hS => ?_)
      replace hP : va_P (dC, dI) vwCl [(hbu, .inl (cB, 256, .inl (ff4))), (hgo, .inl (cZ, 8, .inl (fg))), (hfi, .inl (cI, 8, .inl (ff))), (hma, .inl (cI, 8, .inl (fm))), (hln, .inl (cL, 512, .inl (fl))), (hau, .inl (cI, 512, .inl (fa))), (hsu, .inl (cI, 512, .inl (fs))), (hrow, .inl (cB, 16384, .inl (fr))), (hmade, .inl (cB, 256, .inl (f))), (hbase, .inl (cB, 256, .inl (fb))), (htx9, .inl (cB, 256, .inl (ft))), (hot, .inl (cB, 256, .inl (fo))), (hpc, .inl (cB, 600, .inl (fp))), (h0, .inr (7, [.int 0, .int 0, .int (vI σ.go), .ref hbu, .int (nI (σ.buf.length + 4)), .int (nI σ.nd), .ref hgo, .ref hfi, .ref hma, .ref hln, .ref hau, .ref hsu, .ref hrow, .ref hmade, .int z_madeSize, .ref hbase, .int z_baseSize, .ref htx9, .int z_textSize, .int σ.stp, .ref hot, .int z_otherSize, .ref hpc, .int z_pieceSize, .int z_at, .int z_end, .int z_value]))] H := hP
      replace hD : va_D A [(hbu, .inl (cB, 256, .inl (ff4))), (hgo, .inl (cZ, 8, .inl (fg))), (hfi, .inl (cI, 8, .inl (ff))), (hma, .inl (cI, 8, .inl (fm))), (hln, .inl (cL, 512, .inl (fl))), (hau, .inl (cI, 512, .inl (fa))), (hsu, .inl (cI, 512, .inl (fs))), (hrow, .inl (cB, 16384, .inl (fr))), (hmade, .inl (cB, 256, .inl (f))), (hbase, .inl (cB, 256, .inl (fb))), (htx9, .inl (cB, 256, .inl (ft))), (hot, .inl (cB, 256, .inl (fo))), (hpc, .inl (cB, 600, .inl (fp))), (h0, .inr (7, [.int 0, .int 0, .int (vI σ.go), .ref hbu, .int (nI (σ.buf.length + 4)), .int (nI σ.nd), .ref hgo, .ref hfi, .ref hma, .ref hln, .ref hau, .ref hsu, .ref hrow, .ref hmade, .int z_madeSize, .ref hbase, .int z_baseSize, .ref htx9, .int z_textSize, .int σ.stp, .ref hot, .int z_otherSize, .ref hpc, .int z_pieceSize, .int z_at, .int z_end, .int z_value]))] := hD
      refine lv_iinc (v := 4) (lv' := [(6, .int 4), (7, .int a1), (0, .ref h0), (1, .int a1), (2, .int a2), (3, .int a3), (4, .int a4), (5, .int a5)]) hx hb d_O_feed_114 hl (k := 1) rfl (by decide +kernel) (by decide) rfl (fun ls hl => ?_)
      refine lv_goto (tgt := 26) hx hb d_O_feed_117 (by decide) ?_
      refine lv_iload hx hb d_O_feed_26 (lv_at hl 0 rfl) ?_
      refine lv_bipush (v := 20) hx hb d_O_feed_28 (by decide +kernel) ?_
      refine lv_icmp_ge (tgt := 120) hx hb d_O_feed_30 (by decide) (fun h9 => absurd h9 (by decide +kernel)) (fun _ => ?_)
      refine lv_iload hx hb d_O_feed_33 (lv_at hl 0 rfl) ?_
      refine lv_iconst (v := 4) hx hb d_O_feed_35 (by decide) ?_
      refine lv_icmp_ge (tgt := 43) hx hb d_O_feed_36 (by decide) (fun _ => ?_) (fun h9 => absurd h9 (by decide +kernel))
      refine lv_iload hx hb d_O_feed_43 (lv_at hl 0 rfl) ?_
      refine lv_bipush (v := 8) hx hb d_O_feed_45 (by decide +kernel) ?_
      refine lv_icmp_ge (tgt := 54) hx hb d_O_feed_47 (by decide) (fun h9 => absurd h9 (by decide +kernel)) (fun _ => ?_)
      refine lv_iload_n hx hb d_O_feed_50 rfl (lv_at hl 4 rfl) ?_
      refine lv_goto (tgt := 79) hx hb d_O_feed_51 (by decide) ?_
      refine lv_istore (lv' := [(7, .int a2), (6, .int 4), (0, .ref h0), (1, .int a1), (2, .int a2), (3, .int a3), (4, .int a4), (5, .int a5)]) hx hb d_O_feed_79 hl (by decide) rfl (fun ls hl => ?_)
      refine lv_aload_n hx hb d_O_feed_81 rfl (lv_at hl 2 rfl) ?_
      refine va_get (D := (dC, dI)) (ci := 7) (v := .ref hbu) (C := R_O) (T := F_O) (N := 27) hx hb hw0 in_O hown hK hP 13 rfl rfl 3 (by decide) (hw0 (.fieldLink R_O 13 "TextKeeperModel" "buffer" "[B") wm_247) (fun _ h9 => h9) rfl d_O_feed_82 ?_
      refine lv_aload_n hx hb d_O_feed_85 rfl (lv_at hl 2 rfl) ?_
      refine va_get (D := (dC, dI)) (ci := 7) (v := .int (nI (σ.buf.length + 4))) (C := R_O) (T := F_O) (N := 27) hx hb hw0 in_O hown hK hP 13 rfl rfl 4 (by decide) (hw0 (.fieldLink R_O 69 "TextKeeperModel" "size" "I") wm_245) (fun _ h9 => h9) rfl d_O_feed_86 ?_
      refine lv_iload hx hb d_O_feed_89 (lv_at hl 0 rfl) ?_
      refine lv_bipush (v := 24) hx hb d_O_feed_91 (by decide +kernel) ?_
      refine lv_bipush (v := 8) hx hb d_O_feed_93 (by decide +kernel) ?_
      refine lv_iload hx hb d_O_feed_95 (lv_at hl 1 rfl) ?_
      refine lv_iconst (v := 4) hx hb d_O_feed_97 (by decide) ?_
      refine lv_irem hx hb d_O_feed_98 (by decide +kernel) ?_
      refine lv_topi (fun x_25 ex_25 => ?_)
      obtain rfl : x_25 = 0 := ex_25.trans (by decide +kernel)
      clear ex_25
      refine lv_imul hx hb d_O_feed_99 ?_
      refine lv_topi (fun x_26 ex_26 => ?_)
      obtain rfl : x_26 = 0 := ex_26.trans (by decide +kernel)
      clear ex_26
      refine lv_isub hx hb d_O_feed_100 ?_
      refine lv_topi (fun x_27 ex_27 => ?_)
      obtain rfl : x_27 = 24 := ex_27.trans (by decide +kernel)
      clear ex_27
      refine lv_ishr hx hb d_O_feed_101 ?_
      obtain ⟨x_28, ex_28⟩ : ∃ y : Int32, (a2 >>> (24 &&& 31)).toInt8.toInt32 = y := ⟨_, rfl⟩
      refine lv_i2b (v := x_28) hx hb d_O_feed_102 ex_28 ?_
      refine va_bast hx hb hK hP hD hS 0 0 rfl rfl (vp_in_nI (by omega) (by decide)) d_O_feed_103 (fun H locs hP hD hS => ?_)
      replace hP : va_P (dC, dI) vwCl [(hbu, .inl (cB, 256, .inl (upd (ff4) (Int32.toNatClampNeg (nI (σ.buf.length + 4))) (vp_nar .byte (x_28))))), (hgo, .inl (cZ, 8, .inl (fg))), (hfi, .inl (cI, 8, .inl (ff))), (hma, .inl (cI, 8, .inl (fm))), (hln, .inl (cL, 512, .inl (fl))), (hau, .inl (cI, 512, .inl (fa))), (hsu, .inl (cI, 512, .inl (fs))), (hrow, .inl (cB, 16384, .inl (fr))), (hmade, .inl (cB, 256, .inl (f))), (hbase, .inl (cB, 256, .inl (fb))), (htx9, .inl (cB, 256, .inl (ft))), (hot, .inl (cB, 256, .inl (fo))), (hpc, .inl (cB, 600, .inl (fp))), (h0, .inr (7, [.int 0, .int 0, .int (vI σ.go), .ref hbu, .int (nI (σ.buf.length + 4)), .int (nI σ.nd), .ref hgo, .ref hfi, .ref hma, .ref hln, .ref hau, .ref hsu, .ref hrow, .ref hmade, .int z_madeSize, .ref hbase, .int z_baseSize, .ref htx9, .int z_textSize, .int σ.stp, .ref hot, .int z_otherSize, .ref hpc, .int z_pieceSize, .int z_at, .int z_end, .int z_value]))] H := hP
      replace hD : va_D A [(hbu, .inl (cB, 256, .inl (upd (ff4) (Int32.toNatClampNeg (nI (σ.buf.length + 4))) (vp_nar .byte (x_28))))), (hgo, .inl (cZ, 8, .inl (fg))), (hfi, .inl (cI, 8, .inl (ff))), (hma, .inl (cI, 8, .inl (fm))), (hln, .inl (cL, 512, .inl (fl))), (hau, .inl (cI, 512, .inl (fa))), (hsu, .inl (cI, 512, .inl (fs))), (hrow, .inl (cB, 16384, .inl (fr))), (hmade, .inl (cB, 256, .inl (f))), (hbase, .inl (cB, 256, .inl (fb))), (htx9, .inl (cB, 256, .inl (ft))), (hot, .inl (cB, 256, .inl (fo))), (hpc, .inl (cB, 600, .inl (fp))), (h0, .inr (7, [.int 0, .int 0, .int (vI σ.go), .ref hbu, .int (nI (σ.buf.length + 4)), .int (nI σ.nd), .ref hgo, .ref hfi, .ref hma, .ref hln, .ref hau, .ref hsu, .ref hrow, .ref hmade, .int z_madeSize, .ref hbase, .int z_baseSize, .ref htx9, .int z_textSize, .int σ.stp, .ref hot, .int z_otherSize, .ref hpc, .int z_pieceSize, .int z_at, .int z_end, .int z_value]))] := hD
      have eS : upd (ff4) (Int32.toNatClampNeg (nI (σ.buf.length + 4))) (vp_nar .byte (x_28)) = upd ff4 (σ.buf.length + 4) (nbb (a2 >>> (24 &&& 31))) := by rw [nI_clamp (by omega), ← ex_28]; exact congrArg (upd ff4 (σ.buf.length + 4)) (pk_vb _)
      rw [eS] at hP hD
      have ht5 := tx_push ht4 (nbb_B (a2 >>> (24 &&& 31)))
      clear eS
      generalize upd ff4 (σ.buf.length + 4) (nbb (a2 >>> (24 &&& 31))) = ff5 at hP hD ht5
      refine lv_aload_n hx hb d_O_feed_104 rfl (lv_at hl 2 rfl) ?_
      refine lv_dup hx hb d_O_feed_105 rfl ?_
      refine va_get (D := (dC, dI)) (ci := 7) (v := .int (nI (σ.buf.length + 4))) (C := R_O) (T := F_O) (N := 27) hx hb hw0 in_O hown hK hP 13 rfl rfl 4 (by decide) (hw0 (.fieldLink R_O 69 "TextKeeperModel" "size" "I") wm_245) (fun _ h9 => h9) rfl d_O_feed_106 ?_
      refine lv_iconst (v := 1) hx hb d_O_feed_109 (by decide) ?_
      refine lv_iadd hx hb d_O_feed_110 ?_
      refine lv_topi (fun x_29 ex_29 => ?_)
      obtain rfl : x_29 = (nI (σ.buf.length + 5)) := by rw [ex_29]; exact nI_1 _
      clear ex_29
      refine va_put (D := (dC, dI)) (ci := 7) (v := .int (nI (σ.buf.length + 5))) (ty := .int) (C := R_O) (T := F_O) (N := 27) hx hb hw0 in_O ft_O tk_O nk_O hown hK hP hD hS 13 rfl rfl 4 (by decide) (hw0 (.fieldLink R_O 69 "TextKeeperModel" "size" "I") wm_245) (fun _ h9 => h9) rfl (by decide +kernel) rfl rfl (Nat.le_of_ble_eq_true rfl) d_O_feed_111 (fun H locs hP hD hS => ?_)
      replace hP : va_P (dC, dI) vwCl [(hbu, .inl (cB, 256, .inl (ff5))), (hgo, .inl (cZ, 8, .inl (fg))), (hfi, .inl (cI, 8, .inl (ff))), (hma, .inl (cI, 8, .inl (fm))), (hln, .inl (cL, 512, .inl (fl))), (hau, .inl (cI, 512, .inl (fa))), (hsu, .inl (cI, 512, .inl (fs))), (hrow, .inl (cB, 16384, .inl (fr))), (hmade, .inl (cB, 256, .inl (f))), (hbase, .inl (cB, 256, .inl (fb))), (htx9, .inl (cB, 256, .inl (ft))), (hot, .inl (cB, 256, .inl (fo))), (hpc, .inl (cB, 600, .inl (fp))), (h0, .inr (7, [.int 0, .int 0, .int (vI σ.go), .ref hbu, .int (nI (σ.buf.length + 5)), .int (nI σ.nd), .ref hgo, .ref hfi, .ref hma, .ref hln, .ref hau, .ref hsu, .ref hrow, .ref hmade, .int z_madeSize, .ref hbase, .int z_baseSize, .ref htx9, .int z_textSize, .int σ.stp, .ref hot, .int z_otherSize, .ref hpc, .int z_pieceSize, .int z_at, .int z_end, .int z_value]))] H := hP
      replace hD : va_D A [(hbu, .inl (cB, 256, .inl (ff5))), (hgo, .inl (cZ, 8, .inl (fg))), (hfi, .inl (cI, 8, .inl (ff))), (hma, .inl (cI, 8, .inl (fm))), (hln, .inl (cL, 512, .inl (fl))), (hau, .inl (cI, 512, .inl (fa))), (hsu, .inl (cI, 512, .inl (fs))), (hrow, .inl (cB, 16384, .inl (fr))), (hmade, .inl (cB, 256, .inl (f))), (hbase, .inl (cB, 256, .inl (fb))), (htx9, .inl (cB, 256, .inl (ft))), (hot, .inl (cB, 256, .inl (fo))), (hpc, .inl (cB, 600, .inl (fp))), (h0, .inr (7, [.int 0, .int 0, .int (vI σ.go), .ref hbu, .int (nI (σ.buf.length + 5)), .int (nI σ.nd), .ref hgo, .ref hfi, .ref hma, .ref hln, .ref hau, .ref hsu, .ref hrow, .ref hmade, .int z_madeSize, .ref hbase, .int z_baseSize, .ref htx9, .int z_textSize, .int σ.stp, .ref hot, .int z_otherSize, .ref hpc, .int z_pieceSize, .int z_at, .int z_end, .int z_value]))] := hD
      refine lv_iinc (v := 5) (lv' := [(6, .int 5), (7, .int a2), (0, .ref h0), (1, .int a1), (2, .int a2), (3, .int a3), (4, .int a4), (5, .int a5)]) hx hb d_O_feed_114 hl (k := 1) rfl (by decide +kernel) (by decide) rfl (fun ls hl => ?_)
      refine lv_goto (tgt := 26) hx hb d_O_feed_117 (by decide) ?_
      refine lv_iload hx hb d_O_feed_26 (lv_at hl 0 rfl) ?_
      refine lv_bipush (v := 20) hx hb d_O_feed_28 (by decide +kernel) ?_
      refine lv_icmp_ge (tgt := 120) hx hb d_O_feed_30 (by decide) (fun h9 => absurd h9 (by decide +kernel)) (fun _ => ?_)
      refine lv_iload hx hb d_O_feed_33 (lv_at hl 0 rfl) ?_
      refine lv_iconst (v := 4) hx hb d_O_feed_35 (by decide) ?_
      refine lv_icmp_ge (tgt := 43) hx hb d_O_feed_36 (by decide) (fun _ => ?_) (fun h9 => absurd h9 (by decide +kernel))
      refine lv_iload hx hb d_O_feed_43 (lv_at hl 0 rfl) ?_
      refine lv_bipush (v := 8) hx hb d_O_feed_45 (by decide +kernel) ?_
      refine lv_icmp_ge (tgt := 54) hx hb d_O_feed_47 (by decide) (fun h9 => absurd h9 (by decide +kernel)) (fun _ => ?_)
      refine lv_iload_n hx hb d_O_feed_50 rfl (lv_at hl 4 rfl) ?_
      refine lv_goto (tgt := 79) hx hb d_O_feed_51 (by decide) ?_
      refine lv_istore (lv' := [(7, .int a2), (6, .int 5), (0, .ref h0), (1, .int a1), (2, .int a2), (3, .int a3), (4, .int a4), (5, .int a5)]) hx hb d_O_feed_79 hl (by decide) rfl (fun ls hl => ?_)
      refine lv_aload_n hx hb d_O_feed_81 rfl (lv_at hl 2 rfl) ?_
      refine va_get (D := (dC, dI)) (ci := 7) (v := .ref hbu) (C := R_O) (T := F_O) (N := 27) hx hb hw0 in_O hown hK hP 13 rfl rfl 3 (by decide) (hw0 (.fieldLink R_O 13 "TextKeeperModel" "buffer" "[B") wm_247) (fun _ h9 => h9) rfl d_O_feed_82 ?_
      refine lv_aload_n hx hb d_O_feed_85 rfl (lv_at hl 2 rfl) ?_
      refine va_get (D := (dC, dI)) (ci := 7) (v := .int (nI (σ.buf.length + 5))) (C := R_O) (T := F_O) (N := 27) hx hb hw0 in_O hown hK hP 13 rfl rfl 4 (by decide) (hw0 (.fieldLink R_O 69 "TextKeeperModel" "size" "I") wm_245) (fun _ h9 => h9) rfl d_O_feed_86 ?_
      refine lv_iload hx hb d_O_feed_89 (lv_at hl 0 rfl) ?_
      refine lv_bipush (v := 24) hx hb d_O_feed_91 (by decide +kernel) ?_
      refine lv_bipush (v := 8) hx hb d_O_feed_93 (by decide +kernel) ?_
      refine lv_iload hx hb d_O_feed_95 (lv_at hl 1 rfl) ?_
      refine lv_iconst (v := 4) hx hb d_O_feed_97 (by decide) ?_
      refine lv_irem hx hb d_O_feed_98 (by decide +kernel) ?_
      refine lv_topi (fun x_30 ex_30 => ?_)
      obtain rfl : x_30 = 1 := ex_30.trans (by decide +kernel)
      clear ex_30
      refine lv_imul hx hb d_O_feed_99 ?_
      refine lv_topi (fun x_31 ex_31 => ?_)
      obtain rfl : x_31 = 8 := ex_31.trans (by decide +kernel)
      clear ex_31
      refine lv_isub hx hb d_O_feed_100 ?_
      refine lv_topi (fun x_32 ex_32 => ?_)
      obtain rfl : x_32 = 16 := ex_32.trans (by decide +kernel)
      clear ex_32
      refine lv_ishr hx hb d_O_feed_101 ?_
      obtain ⟨x_33, ex_33⟩ : ∃ y : Int32, (a2 >>> (16 &&& 31)).toInt8.toInt32 = y := ⟨_, rfl⟩
      refine lv_i2b (v := x_33) hx hb d_O_feed_102 ex_33 ?_
      refine va_bast hx hb hK hP hD hS 0 0 rfl rfl (vp_in_nI (by omega) (by decide)) d_O_feed_103 (fun H locs hP hD hS => ?_)
      replace hP : va_P (dC, dI) vwCl [(hbu, .inl (cB, 256, .inl (upd (ff5) (Int32.toNatClampNeg (nI (σ.buf.length + 5))) (vp_nar .byte (x_33))))), (hgo, .inl (cZ, 8, .inl (fg))), (hfi, .inl (cI, 8, .inl (ff))), (hma, .inl (cI, 8, .inl (fm))), (hln, .inl (cL, 512, .inl (fl))), (hau, .inl (cI, 512, .inl (fa))), (hsu, .inl (cI, 512, .inl (fs))), (hrow, .inl (cB, 16384, .inl (fr))), (hmade, .inl (cB, 256, .inl (f))), (hbase, .inl (cB, 256, .inl (fb))), (htx9, .inl (cB, 256, .inl (ft))), (hot, .inl (cB, 256, .inl (fo))), (hpc, .inl (cB, 600, .inl (fp))), (h0, .inr (7, [.int 0, .int 0, .int (vI σ.go), .ref hbu, .int (nI (σ.buf.length + 5)), .int (nI σ.nd), .ref hgo, .ref hfi, .ref hma, .ref hln, .ref hau, .ref hsu, .ref hrow, .ref hmade, .int z_madeSize, .ref hbase, .int z_baseSize, .ref htx9, .int z_textSize, .int σ.stp, .ref hot, .int z_otherSize, .ref hpc, .int z_pieceSize, .int z_at, .int z_end, .int z_value]))] H := hP
      replace hD : va_D A [(hbu, .inl (cB, 256, .inl (upd (ff5) (Int32.toNatClampNeg (nI (σ.buf.length + 5))) (vp_nar .byte (x_33))))), (hgo, .inl (cZ, 8, .inl (fg))), (hfi, .inl (cI, 8, .inl (ff))), (hma, .inl (cI, 8, .inl (fm))), (hln, .inl (cL, 512, .inl (fl))), (hau, .inl (cI, 512, .inl (fa))), (hsu, .inl (cI, 512, .inl (fs))), (hrow, .inl (cB, 16384, .inl (fr))), (hmade, .inl (cB, 256, .inl (f))), (hbase, .inl (cB, 256, .inl (fb))), (htx9, .inl (cB, 256, .inl (ft))), (hot, .inl (cB, 256, .inl (fo))), (hpc, .inl (cB, 600, .inl (fp))), (h0, .inr (7, [.int 0, .int 0, .int (vI σ.go), .ref hbu, .int (nI (σ.buf.length + 5)), .int (nI σ.nd), .ref hgo, .ref hfi, .ref hma, .ref hln, .ref hau, .ref hsu, .ref hrow, .ref hmade, .int z_madeSize, .ref hbase, .int z_baseSize, .ref htx9, .int z_textSize, .int σ.stp, .ref hot, .int z_otherSize, .ref hpc, .int z_pieceSize, .int z_at, .int z_end, .int z_value]))] := hD
      have eS : upd (ff5) (Int32.toNatClampNeg (nI (σ.buf.length + 5))) (vp_nar .byte (x_33)) = upd ff5 (σ.buf.length + 5) (nbb (a2 >>> (16 &&& 31))) := by rw [nI_clamp (by omega), ← ex_33]; exact congrArg (upd ff5 (σ.buf.length + 5)) (pk_vb _)
      rw [eS] at hP hD
      have ht6 := tx_push ht5 (nbb_B (a2 >>> (16 &&& 31)))
      clear eS
      generalize upd ff5 (σ.buf.length + 5) (nbb (a2 >>> (16 &&& 31))) = ff6 at hP hD ht6
      refine lv_aload_n hx hb d_O_feed_104 rfl (lv_at hl 2 rfl) ?_
      refine lv_dup hx hb d_O_feed_105 rfl ?_
      refine va_get (D := (dC, dI)) (ci := 7) (v := .int (nI (σ.buf.length + 5))) (C := R_O) (T := F_O) (N := 27) hx hb hw0 in_O hown hK hP 13 rfl rfl 4 (by decide) (hw0 (.fieldLink R_O 69 "TextKeeperModel" "size" "I") wm_245) (fun _ h9 => h9) rfl d_O_feed_106 ?_
      refine lv_iconst (v := 1) hx hb d_O_feed_109 (by decide) ?_
      refine lv_iadd hx hb d_O_feed_110 ?_
      refine lv_topi (fun x_34 ex_34 => ?_)
      obtain rfl : x_34 = (nI (σ.buf.length + 6)) := by rw [ex_34]; exact nI_1 _
      clear ex_34
      refine va_put (D := (dC, dI)) (ci := 7) (v := .int (nI (σ.buf.length + 6))) (ty := .int) (C := R_O) (T := F_O) (N := 27) hx hb hw0 in_O ft_O tk_O nk_O hown hK hP hD hS 13 rfl rfl 4 (by decide) (hw0 (.fieldLink R_O 69 "TextKeeperModel" "size" "I") wm_245) (fun _ h9 => h9) rfl (by decide +kernel) rfl rfl (Nat.le_of_ble_eq_true rfl) d_O_feed_111 (fun H locs hP hD hS => ?_)
      replace hP : va_P (dC, dI) vwCl [(hbu, .inl (cB, 256, .inl (ff6))), (hgo, .inl (cZ, 8, .inl (fg))), (hfi, .inl (cI, 8, .inl (ff))), (hma, .inl (cI, 8, .inl (fm))), (hln, .inl (cL, 512, .inl (fl))), (hau, .inl (cI, 512, .inl (fa))), (hsu, .inl (cI, 512, .inl (fs))), (hrow, .inl (cB, 16384, .inl (fr))), (hmade, .inl (cB, 256, .inl (f))), (hbase, .inl (cB, 256, .inl (fb))), (htx9, .inl (cB, 256, .inl (ft))), (hot, .inl (cB, 256, .inl (fo))), (hpc, .inl (cB, 600, .inl (fp))), (h0, .inr (7, [.int 0, .int 0, .int (vI σ.go), .ref hbu, .int (nI (σ.buf.length + 6)), .int (nI σ.nd), .ref hgo, .ref hfi, .ref hma, .ref hln, .ref hau, .ref hsu, .ref hrow, .ref hmade, .int z_madeSize, .ref hbase, .int z_baseSize, .ref htx9, .int z_textSize, .int σ.stp, .ref hot, .int z_otherSize, .ref hpc, .int z_pieceSize, .int z_at, .int z_end, .int z_value]))] H := hP
      replace hD : va_D A [(hbu, .inl (cB, 256, .inl (ff6))), (hgo, .inl (cZ, 8, .inl (fg))), (hfi, .inl (cI, 8, .inl (ff))), (hma, .inl (cI, 8, .inl (fm))), (hln, .inl (cL, 512, .inl (fl))), (hau, .inl (cI, 512, .inl (fa))), (hsu, .inl (cI, 512, .inl (fs))), (hrow, .inl (cB, 16384, .inl (fr))), (hmade, .inl (cB, 256, .inl (f))), (hbase, .inl (cB, 256, .inl (fb))), (htx9, .inl (cB, 256, .inl (ft))), (hot, .inl (cB, 256, .inl (fo))), (hpc, .inl (cB, 600, .inl (fp))), (h0, .inr (7, [.int 0, .int 0, .int (vI σ.go), .ref hbu, .int (nI (σ.buf.length + 6)), .int (nI σ.nd), .ref hgo, .ref hfi, .ref hma, .ref hln, .ref hau, .ref hsu, .ref hrow, .ref hmade, .int z_madeSize, .ref hbase, .int z_baseSize, .ref htx9, .int z_textSize, .int σ.stp, .ref hot, .int z_otherSize, .ref hpc, .int z_pieceSize, .int z_at, .int z_end, .int z_value]))] := hD
      refine lv_iinc (v := 6) (lv' := [(6, .int 6), (7, .int a2), (0, .ref h0), (1, .int a1), (2, .int a2), (3, .int a3), (4, .int a4), (5, .int a5)]) hx hb d_O_feed_114 hl (k := 1) rfl (by decide +kernel) (by decide) rfl (fun ls hl => ?_)
      refine lv_goto (tgt := 26) hx hb d_O_feed_117 (by decide) ?_
      refine lv_iload hx hb d_O_feed_26 (lv_at hl 0 rfl) ?_
      refine lv_bipush (v := 20) hx hb d_O_feed_28 (by decide +kernel) ?_
      refine lv_icmp_ge (tgt := 120) hx hb d_O_feed_30 (by decide) (fun h9 => absurd h9 (by decide +kernel)) (fun _ => ?_)
      refine lv_iload hx hb d_O_feed_33 (lv_at hl 0 rfl) ?_
      refine lv_iconst (v := 4) hx hb d_O_feed_35 (by decide) ?_
      refine lv_icmp_ge (tgt := 43) hx hb d_O_feed_36 (by decide) (fun _ => ?_) (fun h9 => absurd h9 (by decide +kernel))
      refine lv_iload hx hb d_O_feed_43 (lv_at hl 0 rfl) ?_
      refine lv_bipush (v := 8) hx hb d_O_feed_45 (by decide +kernel) ?_
      refine lv_icmp_ge (tgt := 54) hx hb d_O_feed_47 (by decide) (fun h9 => absurd h9 (by decide +kernel)) (fun _ => ?_)
      refine lv_iload_n hx hb d_O_feed_50 rfl (lv_at hl 4 rfl) ?_
      refine lv_goto (tgt := 79) hx hb d_O_feed_51 (by decide) ?_
      refine lv_istore (lv' := [(7, .int a2), (6, .int 6), (0, .ref h0), (1, .int a1), (2, .int a2), (3, .int a3), (4, .int a4), (5, .int a5)]) hx hb d_O_feed_79 hl (by decide) rfl (fun ls hl => ?_)
      refine lv_aload_n hx hb d_O_feed_81 rfl (lv_at hl 2 rfl) ?_
      refine va_get (D := (dC, dI)) (ci := 7) (v := .ref hbu) (C := R_O) (T := F_O) (N := 27) hx hb hw0 in_O hown hK hP 13 rfl rfl 3 (by decide) (hw0 (.fieldLink R_O 13 "TextKeeperModel" "buffer" "[B") wm_247) (fun _ h9 => h9) rfl d_O_feed_82 ?_
      refine lv_aload_n hx hb d_O_feed_85 rfl (lv_at hl 2 rfl) ?_
      refine va_get (D := (dC, dI)) (ci := 7) (v := .int (nI (σ.buf.length + 6))) (C := R_O) (T := F_O) (N := 27) hx hb hw0 in_O hown hK hP 13 rfl rfl 4 (by decide) (hw0 (.fieldLink R_O 69 "TextKeeperModel" "size" "I") wm_245) (fun _ h9 => h9) rfl d_O_feed_86 ?_
      refine lv_iload hx hb d_O_feed_89 (lv_at hl 0 rfl) ?_
      refine lv_bipush (v := 24) hx hb d_O_feed_91 (by decide +kernel) ?_
      refine lv_bipush (v := 8) hx hb d_O_feed_93 (by decide +kernel) ?_
      refine lv_iload hx hb d_O_feed_95 (lv_at hl 1 rfl) ?_
      refine lv_iconst (v := 4) hx hb d_O_feed_97 (by decide) ?_
      refine lv_irem hx hb d_O_feed_98 (by decide +kernel) ?_
      refine lv_topi (fun x_35 ex_35 => ?_)
      obtain rfl : x_35 = 2 := ex_35.trans (by decide +kernel)
      clear ex_35
      refine lv_imul hx hb d_O_feed_99 ?_
      refine lv_topi (fun x_36 ex_36 => ?_)
      obtain rfl : x_36 = 16 := ex_36.trans (by decide +kernel)
      clear ex_36
      refine lv_isub hx hb d_O_feed_100 ?_
      refine lv_topi (fun x_37 ex_37 => ?_)
      obtain rfl : x_37 = 8 := ex_37.trans (by decide +kernel)
      clear ex_37
      refine lv_ishr hx hb d_O_feed_101 ?_
      obtain ⟨x_38, ex_38⟩ : ∃ y : Int32, (a2 >>> (8 &&& 31)).toInt8.toInt32 = y := ⟨_, rfl⟩
      refine lv_i2b (v := x_38) hx hb d_O_feed_102 ex_38 ?_
      refine va_bast hx hb hK hP hD hS 0 0 rfl rfl (vp_in_nI (by omega) (by decide)) d_O_feed_103 (fun H locs hP hD hS => ?_)
      replace hP : va_P (dC, dI) vwCl [(hbu, .inl (cB, 256, .inl (upd (ff6) (Int32.toNatClampNeg (nI (σ.buf.length + 6))) (vp_nar .byte (x_38))))), (hgo, .inl (cZ, 8, .inl (fg))), (hfi, .inl (cI, 8, .inl (ff))), (hma, .inl (cI, 8, .inl (fm))), (hln, .inl (cL, 512, .inl (fl))), (hau, .inl (cI, 512, .inl (fa))), (hsu, .inl (cI, 512, .inl (fs))), (hrow, .inl (cB, 16384, .inl (fr))), (hmade, .inl (cB, 256, .inl (f))), (hbase, .inl (cB, 256, .inl (fb))), (htx9, .inl (cB, 256, .inl (ft))), (hot, .inl (cB, 256, .inl (fo))), (hpc, .inl (cB, 600, .inl (fp))), (h0, .inr (7, [.int 0, .int 0, .int (vI σ.go), .ref hbu, .int (nI (σ.buf.length + 6)), .int (nI σ.nd), .ref hgo, .ref hfi, .ref hma, .ref hln, .ref hau, .ref hsu, .ref hrow, .ref hmade, .int z_madeSize, .ref hbase, .int z_baseSize, .ref htx9, .int z_textSize, .int σ.stp, .ref hot, .int z_otherSize, .ref hpc, .int z_pieceSize, .int z_at, .int z_end, .int z_value]))] H := hP
      replace hD : va_D A [(hbu, .inl (cB, 256, .inl (upd (ff6) (Int32.toNatClampNeg (nI (σ.buf.length + 6))) (vp_nar .byte (x_38))))), (hgo, .inl (cZ, 8, .inl (fg))), (hfi, .inl (cI, 8, .inl (ff))), (hma, .inl (cI, 8, .inl (fm))), (hln, .inl (cL, 512, .inl (fl))), (hau, .inl (cI, 512, .inl (fa))), (hsu, .inl (cI, 512, .inl (fs))), (hrow, .inl (cB, 16384, .inl (fr))), (hmade, .inl (cB, 256, .inl (f))), (hbase, .inl (cB, 256, .inl (fb))), (htx9, .inl (cB, 256, .inl (ft))), (hot, .inl (cB, 256, .inl (fo))), (hpc, .inl (cB, 600, .inl (fp))), (h0, .inr (7, [.int 0, .int 0, .int (vI σ.go), .ref hbu, .int (nI (σ.buf.length + 6)), .int (nI σ.nd), .ref hgo, .ref hfi, .ref hma, .ref hln, .ref hau, .ref hsu, .ref hrow, .ref hmade, .int z_madeSize, .ref hbase, .int z_baseSize, .ref htx9, .int z_textSize, .int σ.stp, .ref hot, .int z_otherSize, .ref hpc, .int z_pieceSize, .int z_at, .int z_end, .int z_value]))] := hD
      have eS : upd (ff6) (Int32.toNatClampNeg (nI (σ.buf.length + 6))) (vp_nar .byte (x_38)) = upd ff6 (σ.buf.length + 6) (nbb (a2 >>> (8 &&& 31))) := by rw [nI_clamp (by omega), ← ex_38]; exact congrArg (upd ff6 (σ.buf.length + 6)) (pk_vb _)
      rw [eS] at hP hD
      have ht7 := tx_push ht6 (nbb_B (a2 >>> (8 &&& 31)))
      clear eS
      generalize upd ff6 (σ.buf.length + 6) (nbb (a2 >>> (8 &&& 31))) = ff7 at hP hD ht7
      refine lv_aload_n hx hb d_O_feed_104 rfl (lv_at hl 2 rfl) ?_
      refine lv_dup hx hb d_O_feed_105 rfl ?_
      refine va_get (D := (dC, dI)) (ci := 7) (v := .int (nI (σ.buf.length + 6))) (C := R_O) (T := F_O) (N := 27) hx hb hw0 in_O hown hK hP 13 rfl rfl 4 (by decide) (hw0 (.fieldLink R_O 69 "TextKeeperModel" "size" "I") wm_245) (fun _ h9 => h9) rfl d_O_feed_106 ?_
      refine lv_iconst (v := 1) hx hb d_O_feed_109 (by decide) ?_
      refine lv_iadd hx hb d_O_feed_110 ?_
      refine lv_topi (fun x_39 ex_39 => ?_)
      obtain rfl : x_39 = (nI (σ.buf.length + 7)) := by rw [ex_39]; exact nI_1 _
      clear ex_39
      refine va_put (D := (dC, dI)) (ci := 7) (v := .int (nI (σ.buf.length + 7))) (ty := .int) (C := R_O) (T := F_O) (N := 27) hx hb hw0 in_O ft_O tk_O nk_O hown hK hP hD hS 13 rfl rfl 4 (by decide) (hw0 (.fieldLink R_O 69 "TextKeeperModel" "size" "I") wm_245) (fun _ h9 => h9) rfl (by decide +kernel) rfl rfl (Nat.le_of_ble_eq_true rfl) d_O_feed_111 (fun H locs hP hD hS => ?_)
      replace hP : va_P (dC, dI) vwCl [(hbu, .inl (cB, 256, .inl (ff7))), (hgo, .inl (cZ, 8, .inl (fg))), (hfi, .inl (cI, 8, .inl (ff))), (hma, .inl (cI, 8, .inl (fm))), (hln, .inl (cL, 512, .inl (fl))), (hau, .inl (cI, 512, .inl (fa))), (hsu, .inl (cI, 512, .inl (fs))), (hrow, .inl (cB, 16384, .inl (fr))), (hmade, .inl (cB, 256, .inl (f))), (hbase, .inl (cB, 256, .inl (fb))), (htx9, .inl (cB, 256, .inl (ft))), (hot, .inl (cB, 256, .inl (fo))), (hpc, .inl (cB, 600, .inl (fp))), (h0, .inr (7, [.int 0, .int 0, .int (vI σ.go), .ref hbu, .int (nI (σ.buf.length + 7)), .int (nI σ.nd), .ref hgo, .ref hfi, .ref hma, .ref hln, .ref hau, .ref hsu, .ref hrow, .ref hmade, .int z_madeSize, .ref hbase, .int z_baseSize, .ref htx9, .int z_textSize, .int σ.stp, .ref hot, .int z_otherSize, .ref hpc, .int z_pieceSize, .int z_at, .int z_end, .int z_value]))] H := hP
      replace hD : va_D A [(hbu, .inl (cB, 256, .inl (ff7))), (hgo, .inl (cZ, 8, .inl (fg))), (hfi, .inl (cI, 8, .inl (ff))), (hma, .inl (cI, 8, .inl (fm))), (hln, .inl (cL, 512, .inl (fl))), (hau, .inl (cI, 512, .inl (fa))), (hsu, .inl (cI, 512, .inl (fs))), (hrow, .inl (cB, 16384, .inl (fr))), (hmade, .inl (cB, 256, .inl (f))), (hbase, .inl (cB, 256, .inl (fb))), (htx9, .inl (cB, 256, .inl (ft))), (hot, .inl (cB, 256, .inl (fo))), (hpc, .inl (cB, 600, .inl (fp))), (h0, .inr (7, [.int 0, .int 0, .int (vI σ.go), .ref hbu, .int (nI (σ.buf.length + 7)), .int (nI σ.nd), .ref hgo, .ref hfi, .ref hma, .ref hln, .ref hau, .ref hsu, .ref hrow, .ref hmade, .int z_madeSize, .ref hbase, .int z_baseSize, .ref htx9, .int z_textSize, .int σ.stp, .ref hot, .int z_otherSize, .ref hpc, .int z_pieceSize, .int z_at, .int z_end, .int z_value]))] := hD
      refine lv_iinc (v := 7) (lv' := [(6, .int 7), (7, .int a2), (0, .ref h0), (1, .int a1), (2, .int a2), (3, .int a3), (4, .int a4), (5, .int a5)]) hx hb d_O_feed_114 hl (k := 1) rfl (by decide +kernel) (by decide) rfl (fun ls hl => ?_)
      refine lv_goto (tgt := 26) hx hb d_O_feed_117 (by decide) ?_
      refine lv_iload hx hb d_O_feed_26 (lv_at hl 0 rfl) ?_
      refine lv_bipush (v := 20) hx hb d_O_feed_28 (by decide +kernel) ?_
      refine lv_icmp_ge (tgt := 120) hx hb d_O_feed_30 (by decide) (fun h9 => absurd h9 (by decide +kernel)) (fun _ => ?_)
      refine lv_iload hx hb d_O_feed_33 (lv_at hl 0 rfl) ?_
      refine lv_iconst (v := 4) hx hb d_O_feed_35 (by decide) ?_
      refine lv_icmp_ge (tgt := 43) hx hb d_O_feed_36 (by decide) (fun _ => ?_) (fun h9 => absurd h9 (by decide +kernel))
      refine lv_iload hx hb d_O_feed_43 (lv_at hl 0 rfl) ?_
      refine lv_bipush (v := 8) hx hb d_O_feed_45 (by decide +kernel) ?_
      refine lv_icmp_ge (tgt := 54) hx hb d_O_feed_47 (by decide) (fun h9 => absurd h9 (by decide +kernel)) (fun _ => ?_)
      refine lv_iload_n hx hb d_O_feed_50 rfl (lv_at hl 4 rfl) ?_
      refine lv_goto (tgt := 79) hx hb d_O_feed_51 (by decide) ?_
      refine lv_istore (lv' := [(7, .int a2), (6, .int 7), (0, .ref h0), (1, .int a1), (2, .int a2), (3, .int a3), (4, .int a4), (5, .int a5)]) hx hb d_O_feed_79 hl (by decide) rfl (fun ls hl => ?_)
      refine lv_aload_n hx hb d_O_feed_81 rfl (lv_at hl 2 rfl) ?_
      refine va_get (D := (dC, dI)) (ci := 7) (v := .ref hbu) (C := R_O) (T := F_O) (N := 27) hx hb hw0 in_O hown hK hP 13 rfl rfl 3 (by decide) (hw0 (.fieldLink R_O 13 "TextKeeperModel" "buffer" "[B") wm_247) (fun _ h9 => h9) rfl d_O_feed_82 ?_
      refine lv_aload_n hx hb d_O_feed_85 rfl (lv_at hl 2 rfl) ?_
      refine va_get (D := (dC, dI)) (ci := 7) (v := .int (nI (σ.buf.length + 7))) (C := R_O) (T := F_O) (N := 27) hx hb hw0 in_O hown hK hP 13 rfl rfl 4 (by decide) (hw0 (.fieldLink R_O 69 "TextKeeperModel" "size" "I") wm_245) (fun _ h9 => h9) rfl d_O_feed_86 ?_
      refine lv_iload hx hb d_O_feed_89 (lv_at hl 0 rfl) ?_
      refine lv_bipush (v := 24) hx hb d_O_feed_91 (by decide +kernel) ?_
      refine lv_bipush (v := 8) hx hb d_O_feed_93 (by decide +kernel) ?_
      refine lv_iload hx hb d_O_feed_95 (lv_at hl 1 rfl) ?_
      refine lv_iconst (v := 4) hx hb d_O_feed_97 (by decide) ?_
      refine lv_irem hx hb d_O_feed_98 (by decide +kernel) ?_
      refine lv_topi (fun x_40 ex_40 => ?_)
      obtain rfl : x_40 = 3 := ex_40.trans (by decide +kernel)
      clear ex_40
      refine lv_imul hx hb d_O_feed_99 ?_
      refine lv_topi (fun x_41 ex_41 => ?_)
      obtain rfl : x_41 = 24 := ex_41.trans (by decide +kernel)
      clear ex_41
      refine lv_isub hx hb d_O_feed_100 ?_
      refine lv_topi (fun x_42 ex_42 => ?_)
      obtain rfl : x_42 = 0 := ex_42.trans (by decide +kernel)
      clear ex_42
      refine lv_ishr hx hb d_O_feed_101 ?_
      obtain ⟨x_43, ex_43⟩ : ∃ y : Int32, (a2 >>> (0 &&& 31)).toInt8.toInt32 = y := ⟨_, rfl⟩
      refine lv_i2b (v := x_43) hx hb d_O_feed_102 ex_43 ?_
      refine va_bast hx hb hK hP hD hS 0 0 rfl rfl (vp_in_nI (by omega) (by decide)) d_O_feed_103 (fun H locs hP hD hS => ?_)
      replace hP : va_P (dC, dI) vwCl [(hbu, .inl (cB, 256, .inl (upd (ff7) (Int32.toNatClampNeg (nI (σ.buf.length + 7))) (vp_nar .byte (x_43))))), (hgo, .inl (cZ, 8, .inl (fg))), (hfi, .inl (cI, 8, .inl (ff))), (hma, .inl (cI, 8, .inl (fm))), (hln, .inl (cL, 512, .inl (fl))), (hau, .inl (cI, 512, .inl (fa))), (hsu, .inl (cI, 512, .inl (fs))), (hrow, .inl (cB, 16384, .inl (fr))), (hmade, .inl (cB, 256, .inl (f))), (hbase, .inl (cB, 256, .inl (fb))), (htx9, .inl (cB, 256, .inl (ft))), (hot, .inl (cB, 256, .inl (fo))), (hpc, .inl (cB, 600, .inl (fp))), (h0, .inr (7, [.int 0, .int 0, .int (vI σ.go), .ref hbu, .int (nI (σ.buf.length + 7)), .int (nI σ.nd), .ref hgo, .ref hfi, .ref hma, .ref hln, .ref hau, .ref hsu, .ref hrow, .ref hmade, .int z_madeSize, .ref hbase, .int z_baseSize, .ref htx9, .int z_textSize, .int σ.stp, .ref hot, .int z_otherSize, .ref hpc, .int z_pieceSize, .int z_at, .int z_end, .int z_value]))] H := hP
      replace hD : va_D A [(hbu, .inl (cB, 256, .inl (upd (ff7) (Int32.toNatClampNeg (nI (σ.buf.length + 7))) (vp_nar .byte (x_43))))), (hgo, .inl (cZ, 8, .inl (fg))), (hfi, .inl (cI, 8, .inl (ff))), (hma, .inl (cI, 8, .inl (fm))), (hln, .inl (cL, 512, .inl (fl))), (hau, .inl (cI, 512, .inl (fa))), (hsu, .inl (cI, 512, .inl (fs))), (hrow, .inl (cB, 16384, .inl (fr))), (hmade, .inl (cB, 256, .inl (f))), (hbase, .inl (cB, 256, .inl (fb))), (htx9, .inl (cB, 256, .inl (ft))), (hot, .inl (cB, 256, .inl (fo))), (hpc, .inl (cB, 600, .inl (fp))), (h0, .inr (7, [.int 0, .int 0, .int (vI σ.go), .ref hbu, .int (nI (σ.buf.length + 7)), .int (nI σ.nd), .ref hgo, .ref hfi, .ref hma, .ref hln, .ref hau, .ref hsu, .ref hrow, .ref hmade, .int z_madeSize, .ref hbase, .int z_baseSize, .ref htx9, .int z_textSize, .int σ.stp, .ref hot, .int z_otherSize, .ref hpc, .int z_pieceSize, .int z_at, .int z_end, .int z_value]))] := hD
      have eS : upd (ff7) (Int32.toNatClampNeg (nI (σ.buf.length + 7))) (vp_nar .byte (x_43)) = upd ff7 (σ.buf.length + 7) (nbb (a2 >>> (0 &&& 31))) := by rw [nI_clamp (by omega), ← ex_43]; exact congrArg (upd ff7 (σ.buf.length + 7)) (pk_vb _)
      rw [eS] at hP hD
      have ht8 := tx_push ht7 (nbb_B (a2 >>> (0 &&& 31)))
      clear eS
      generalize upd ff7 (σ.buf.length + 7) (nbb (a2 >>> (0 &&& 31))) = ff8 at hP hD ht8
      refine lv_aload_n hx hb d_O_feed_104 rfl (lv_at hl 2 rfl) ?_
      refine lv_dup hx hb d_O_feed_105 rfl ?_
      refine va_get (D := (dC, dI)) (ci := 7) (v := .int (nI (σ.buf.length + 7))) (C := R_O) (T := F_O) (N := 27) hx hb hw0 in_O hown hK hP 13 rfl rfl 4 (by decide) (hw0 (.fieldLink R_O 69 "TextKeeperModel" "size" "I") wm_245) (fun _ h9 => h9) rfl d_O_feed_106 ?_
      refine lv_iconst (v := 1) hx hb d_O_feed_109 (by decide) ?_
      refine lv_iadd hx hb d_O_feed_110 ?_
      refine lv_topi (fun x_44 ex_44 => ?_)
      obtain rfl : x_44 = (nI (σ.buf.length + 8)) := by rw [ex_44]; exact nI_1 _
      clear ex_44
      refine va_put (D := (dC, dI)) (ci := 7) (v := .int (nI (σ.buf.length + 8))) (ty := .int) (C := R_O) (T := F_O) (N := 27) hx hb hw0 in_O ft_O tk_O nk_O hown hK hP hD hS 13 rfl rfl 4 (by decide) (hw0 (.fieldLink R_O 69 "TextKeeperModel" "size" "I") wm_245) (fun _ h9 => h9) rfl (by decide +kernel) rfl rfl (Nat.le_of_ble_eq_true rfl) d_O_feed_111 (fun H locs hP hD hS => ?_)
      replace hP : va_P (dC, dI) vwCl [(hbu, .inl (cB, 256, .inl (ff8))), (hgo, .inl (cZ, 8, .inl (fg))), (hfi, .inl (cI, 8, .inl (ff))), (hma, .inl (cI, 8, .inl (fm))), (hln, .inl (cL, 512, .inl (fl))), (hau, .inl (cI, 512, .inl (fa))), (hsu, .inl (cI, 512, .inl (fs))), (hrow, .inl (cB, 16384, .inl (fr))), (hmade, .inl (cB, 256, .inl (f))), (hbase, .inl (cB, 256, .inl (fb))), (htx9, .inl (cB, 256, .inl (ft))), (hot, .inl (cB, 256, .inl (fo))), (hpc, .inl (cB, 600, .inl (fp))), (h0, .inr (7, [.int 0, .int 0, .int (vI σ.go), .ref hbu, .int (nI (σ.buf.length + 8)), .int (nI σ.nd), .ref hgo, .ref hfi, .ref hma, .ref hln, .ref hau, .ref hsu, .ref hrow, .ref hmade, .int z_madeSize, .ref hbase, .int z_baseSize, .ref htx9, .int z_textSize, .int σ.stp, .ref hot, .int z_otherSize, .ref hpc, .int z_pieceSize, .int z_at, .int z_end, .int z_value]))] H := hP
      replace hD : va_D A [(hbu, .inl (cB, 256, .inl (ff8))), (hgo, .inl (cZ, 8, .inl (fg))), (hfi, .inl (cI, 8, .inl (ff))), (hma, .inl (cI, 8, .inl (fm))), (hln, .inl (cL, 512, .inl (fl))), (hau, .inl (cI, 512, .inl (fa))), (hsu, .inl (cI, 512, .inl (fs))), (hrow, .inl (cB, 16384, .inl (fr))), (hmade, .inl (cB, 256, .inl (f))), (hbase, .inl (cB, 256, .inl (fb))), (htx9, .inl (cB, 256, .inl (ft))), (hot, .inl (cB, 256, .inl (fo))), (hpc, .inl (cB, 600, .inl (fp))), (h0, .inr (7, [.int 0, .int 0, .int (vI σ.go), .ref hbu, .int (nI (σ.buf.length + 8)), .int (nI σ.nd), .ref hgo, .ref hfi, .ref hma, .ref hln, .ref hau, .ref hsu, .ref hrow, .ref hmade, .int z_madeSize, .ref hbase, .int z_baseSize, .ref htx9, .int z_textSize, .int σ.stp, .ref hot, .int z_otherSize, .ref hpc, .int z_pieceSize, .int z_at, .int z_end, .int z_value]))] := hD
      refine lv_iinc (v := 8) (lv' := [(6, .int 8), (7, .int a2), (0, .ref h0), (1, .int a1), (2, .int a2), (3, .int a3), (4, .int a4), (5, .int a5)]) hx hb d_O_feed_114 hl (k := 1) rfl (by decide +kernel) (by decide) rfl (fun ls hl => ?_)
      refine lv_goto (tgt := 26) hx hb d_O_feed_117 (by decide) ?_
      refine lv_iload hx hb d_O_feed_26 (lv_at hl 0 rfl) ?_
      refine lv_bipush (v := 20) hx hb d_O_feed_28 (by decide +kernel) ?_
      refine lv_icmp_ge (tgt := 120) hx hb d_O_feed_30 (by decide) (fun h9 => absurd h9 (by decide +kernel)) (fun _ => ?_)
      refine lv_iload hx hb d_O_feed_33 (lv_at hl 0 rfl) ?_
      refine lv_iconst (v := 4) hx hb d_O_feed_35 (by decide) ?_
      refine lv_icmp_ge (tgt := 43) hx hb d_O_feed_36 (by decide) (fun _ => ?_) (fun h9 => absurd h9 (by decide +kernel))
      refine lv_iload hx hb d_O_feed_43 (lv_at hl 0 rfl) ?_
      refine lv_bipush (v := 8) hx hb d_O_feed_45 (by decide +kernel) ?_
      refine lv_icmp_ge (tgt := 54) hx hb d_O_feed_47 (by decide) (fun _ => ?_) (fun h9 => absurd h9 (by decide +kernel))
      refine lv_iload hx hb d_O_feed_54 (lv_at hl 0 rfl) ?_
      refine lv_bipush (v := 12) hx hb d_O_feed_56 (by decide +kernel) ?_
      refine lv_icmp_ge (tgt := 65) hx hb d_O_feed_58 (by decide) (fun h9 => absurd h9 (by decide +kernel)) (fun _ => ?_)
      refine lv_iload_n hx hb d_O_feed_61 rfl (lv_at hl 5 rfl) ?_
      refine lv_goto (tgt := 79) hx hb d_O_feed_62 (by decide) ?_
      refine lv_istore (lv' := [(7, .int a3), (6, .int 8), (0, .ref h0), (1, .int a1), (2, .int a2), (3, .int a3), (4, .int a4), (5, .int a5)]) hx hb d_O_feed_79 hl (by decide) rfl (fun ls hl => ?_)
      refine lv_aload_n hx hb d_O_feed_81 rfl (lv_at hl 2 rfl) ?_
      refine va_get (D := (dC, dI)) (ci := 7) (v := .ref hbu) (C := R_O) (T := F_O) (N := 27) hx hb hw0 in_O hown hK hP 13 rfl rfl 3 (by decide) (hw0 (.fieldLink R_O 13 "TextKeeperModel" "buffer" "[B") wm_247) (fun _ h9 => h9) rfl d_O_feed_82 ?_
      refine lv_aload_n hx hb d_O_feed_85 rfl (lv_at hl 2 rfl) ?_
      refine va_get (D := (dC, dI)) (ci := 7) (v := .int (nI (σ.buf.length + 8))) (C := R_O) (T := F_O) (N := 27) hx hb hw0 in_O hown hK hP 13 rfl rfl 4 (by decide) (hw0 (.fieldLink R_O 69 "TextKeeperModel" "size" "I") wm_245) (fun _ h9 => h9) rfl d_O_feed_86 ?_
      refine lv_iload hx hb d_O_feed_89 (lv_at hl 0 rfl) ?_
      refine lv_bipush (v := 24) hx hb d_O_feed_91 (by decide +kernel) ?_
      refine lv_bipush (v := 8) hx hb d_O_feed_93 (by decide +kernel) ?_
      refine lv_iload hx hb d_O_feed_95 (lv_at hl 1 rfl) ?_
      refine lv_iconst (v := 4) hx hb d_O_feed_97 (by decide) ?_
      refine lv_irem hx hb d_O_feed_98 (by decide +kernel) ?_
      refine lv_topi (fun x_45 ex_45 => ?_)
      obtain rfl : x_45 = 0 := ex_45.trans (by decide +kernel)
      clear ex_45
      refine lv_imul hx hb d_O_feed_99 ?_
      refine lv_topi (fun x_46 ex_46 => ?_)
      obtain rfl : x_46 = 0 := ex_46.trans (by decide +kernel)
      clear ex_46
      refine lv_isub hx hb d_O_feed_100 ?_
      refine lv_topi (fun x_47 ex_47 => ?_)
      obtain rfl : x_47 = 24 := ex_47.trans (by decide +kernel)
      clear ex_47
      refine lv_ishr hx hb d_O_feed_101 ?_
      obtain ⟨x_48, ex_48⟩ : ∃ y : Int32, (a3 >>> (24 &&& 31)).toInt8.toInt32 = y := ⟨_, rfl⟩
      refine lv_i2b (v := x_48) hx hb d_O_feed_102 ex_48 ?_
      refine va_bast hx hb hK hP hD hS 0 0 rfl rfl (vp_in_nI (by omega) (by decide)) d_O_feed_103 (fun H locs hP hD hS => ?_)
      replace hP : va_P (dC, dI) vwCl [(hbu, .inl (cB, 256, .inl (upd (ff8) (Int32.toNatClampNeg (nI (σ.buf.length + 8))) (vp_nar .byte (x_48))))), (hgo, .inl (cZ, 8, .inl (fg))), (hfi, .inl (cI, 8, .inl (ff))), (hma, .inl (cI, 8, .inl (fm))), (hln, .inl (cL, 512, .inl (fl))), (hau, .inl (cI, 512, .inl (fa))), (hsu, .inl (cI, 512, .inl (fs))), (hrow, .inl (cB, 16384, .inl (fr))), (hmade, .inl (cB, 256, .inl (f))), (hbase, .inl (cB, 256, .inl (fb))), (htx9, .inl (cB, 256, .inl (ft))), (hot, .inl (cB, 256, .inl (fo))), (hpc, .inl (cB, 600, .inl (fp))), (h0, .inr (7, [.int 0, .int 0, .int (vI σ.go), .ref hbu, .int (nI (σ.buf.length + 8)), .int (nI σ.nd), .ref hgo, .ref hfi, .ref hma, .ref hln, .ref hau, .ref hsu, .ref hrow, .ref hmade, .int z_madeSize, .ref hbase, .int z_baseSize, .ref htx9, .int z_textSize, .int σ.stp, .ref hot, .int z_otherSize, .ref hpc, .int z_pieceSize, .int z_at, .int z_end, .int z_value]))] H := hP
      replace hD : va_D A [(hbu, .inl (cB, 256, .inl (upd (ff8) (Int32.toNatClampNeg (nI (σ.buf.length + 8))) (vp_nar .byte (x_48))))), (hgo, .inl (cZ, 8, .inl (fg))), (hfi, .inl (cI, 8, .inl (ff))), (hma, .inl (cI, 8, .inl (fm))), (hln, .inl (cL, 512, .inl (fl))), (hau, .inl (cI, 512, .inl (fa))), (hsu, .inl (cI, 512, .inl (fs))), (hrow, .inl (cB, 16384, .inl (fr))), (hmade, .inl (cB, 256, .inl (f))), (hbase, .inl (cB, 256, .inl (fb))), (htx9, .inl (cB, 256, .inl (ft))), (hot, .inl (cB, 256, .inl (fo))), (hpc, .inl (cB, 600, .inl (fp))), (h0, .inr (7, [.int 0, .int 0, .int (vI σ.go), .ref hbu, .int (nI (σ.buf.length + 8)), .int (nI σ.nd), .ref hgo, .ref hfi, .ref hma, .ref hln, .ref hau, .ref hsu, .ref hrow, .ref hmade, .int z_madeSize, .ref hbase, .int z_baseSize, .ref htx9, .int z_textSize, .int σ.stp, .ref hot, .int z_otherSize, .ref hpc, .int z_pieceSize, .int z_at, .int z_end, .int z_value]))] := hD
      have eS : upd (ff8) (Int32.toNatClampNeg (nI (σ.buf.length + 8))) (vp_nar .byte (x_48)) = upd ff8 (σ.buf.length + 8) (nbb (a3 >>> (24 &&& 31))) := by rw [nI_clamp (by omega), ← ex_48]; exact congrArg (upd ff8 (σ.buf.length + 8)) (pk_vb _)
      rw [eS] at hP hD
      have ht9 := tx_push ht8 (nbb_B (a3 >>> (24 &&& 31)))
      clear eS
      generalize upd ff8 (σ.buf.length + 8) (nbb (a3 >>> (24 &&& 31))) = ff9 at hP hD ht9
      refine lv_aload_n hx hb d_O_feed_104 rfl (lv_at hl 2 rfl) ?_
      refine lv_dup hx hb d_O_feed_105 rfl ?_
      refine va_get (D := (dC, dI)) (ci := 7) (v := .int (nI (σ.buf.length + 8))) (C := R_O) (T := F_O) (N := 27) hx hb hw0 in_O hown hK hP 13 rfl rfl 4 (by decide) (hw0 (.fieldLink R_O 69 "TextKeeperModel" "size" "I") wm_245) (fun _ h9 => h9) rfl d_O_feed_106 ?_
      refine lv_iconst (v := 1) hx hb d_O_feed_109 (by decide) ?_
      refine lv_iadd hx hb d_O_feed_110 ?_
      refine lv_topi (fun x_49 ex_49 => ?_)
      obtain rfl : x_49 = (nI (σ.buf.length + 9)) := by rw [ex_49]; exact nI_1 _
      clear ex_49
      refine va_put (D := (dC, dI)) (ci := 7) (v := .int (nI (σ.buf.length + 9))) (ty := .int) (C := R_O) (T := F_O) (N := 27) hx hb hw0 in_O ft_O tk_O nk_O hown hK hP hD hS 13 rfl rfl 4 (by decide) (hw0 (.fieldLink R_O 69 "TextKeeperModel" "size" "I") wm_245) (fun _ h9 => h9) rfl (by decide +kernel) rfl rfl (Nat.le_of_ble_eq_true rfl) d_O_feed_111 (fun H locs hP hD hS => ?_)
      replace hP : va_P (dC, dI) vwCl [(hbu, .inl (cB, 256, .inl (ff9))), (hgo, .inl (cZ, 8, .inl (fg))), (hfi, .inl (cI, 8, .inl (ff))), (hma, .inl (cI, 8, .inl (fm))), (hln, .inl (cL, 512, .inl (fl))), (hau, .inl (cI, 512, .inl (fa))), (hsu, .inl (cI, 512, .inl (fs))), (hrow, .inl (cB, 16384, .inl (fr))), (hmade, .inl (cB, 256, .inl (f))), (hbase, .inl (cB, 256, .inl (fb))), (htx9, .inl (cB, 256, .inl (ft))), (hot, .inl (cB, 256, .inl (fo))), (hpc, .inl (cB, 600, .inl (fp))), (h0, .inr (7, [.int 0, .int 0, .int (vI σ.go), .ref hbu, .int (nI (σ.buf.length + 9)), .int (nI σ.nd), .ref hgo, .ref hfi, .ref hma, .ref hln, .ref hau, .ref hsu, .ref hrow, .ref hmade, .int z_madeSize, .ref hbase, .int z_baseSize, .ref htx9, .int z_textSize, .int σ.stp, .ref hot, .int z_otherSize, .ref hpc, .int z_pieceSize, .int z_at, .int z_end, .int z_value]))] H := hP
      replace hD : va_D A [(hbu, .inl (cB, 256, .inl (ff9))), (hgo, .inl (cZ, 8, .inl (fg))), (hfi, .inl (cI, 8, .inl (ff))), (hma, .inl (cI, 8, .inl (fm))), (hln, .inl (cL, 512, .inl (fl))), (hau, .inl (cI, 512, .inl (fa))), (hsu, .inl (cI, 512, .inl (fs))), (hrow, .inl (cB, 16384, .inl (fr))), (hmade, .inl (cB, 256, .inl (f))), (hbase, .inl (cB, 256, .inl (fb))), (htx9, .inl (cB, 256, .inl (ft))), (hot, .inl (cB, 256, .inl (fo))), (hpc, .inl (cB, 600, .inl (fp))), (h0, .inr (7, [.int 0, .int 0, .int (vI σ.go), .ref hbu, .int (nI (σ.buf.length + 9)), .int (nI σ.nd), .ref hgo, .ref hfi, .ref hma, .ref hln, .ref hau, .ref hsu, .ref hrow, .ref hmade, .int z_madeSize, .ref hbase, .int z_baseSize, .ref htx9, .int z_textSize, .int σ.stp, .ref hot, .int z_otherSize, .ref hpc, .int z_pieceSize, .int z_at, .int z_end, .int z_value]))] := hD
      refine lv_iinc (v := 9) (lv' := [(6, .int 9), (7, .int a3), (0, .ref h0), (1, .int a1), (2, .int a2), (3, .int a3), (4, .int a4), (5, .int a5)]) hx hb d_O_feed_114 hl (k := 1) rfl (by decide +kernel) (by decide) rfl (fun ls hl => ?_)
      refine lv_goto (tgt := 26) hx hb d_O_feed_117 (by decide) ?_
      refine lv_iload hx hb d_O_feed_26 (lv_at hl 0 rfl) ?_
      refine lv_bipush (v := 20) hx hb d_O_feed_28 (by decide +kernel) ?_
      refine lv_icmp_ge (tgt := 120) hx hb d_O_feed_30 (by decide) (fun h9 => absurd h9 (by decide +kernel)) (fun _ => ?_)
      refine lv_iload hx hb d_O_feed_33 (lv_at hl 0 rfl) ?_
      refine lv_iconst (v := 4) hx hb d_O_feed_35 (by decide) ?_
      refine lv_icmp_ge (tgt := 43) hx hb d_O_feed_36 (by decide) (fun _ => ?_) (fun h9 => absurd h9 (by decide +kernel))
      refine lv_iload hx hb d_O_feed_43 (lv_at hl 0 rfl) ?_
      refine lv_bipush (v := 8) hx hb d_O_feed_45 (by decide +kernel) ?_
      refine lv_icmp_ge (tgt := 54) hx hb d_O_feed_47 (by decide) (fun _ => ?_) (fun h9 => absurd h9 (by decide +kernel))
      refine lv_iload hx hb d_O_feed_54 (lv_at hl 0 rfl) ?_
      refine lv_bipush (v := 12) hx hb d_O_feed_56 (by decide +kernel) ?_
      refine lv_icmp_ge (tgt := 65) hx hb d_O_feed_58 (by decide) (fun h9 => absurd h9 (by decide +kernel)) (fun _ => ?_)
      refine lv_iload_n hx hb d_O_feed_61 rfl (lv_at hl 5 rfl) ?_
      refine lv_goto (tgt := 79) hx hb d_O_feed_62 (by decide) ?_
      refine lv_istore (lv' := [(7, .int a3), (6, .int 9), (0, .ref h0), (1, .int a1), (2, .int a2), (3, .int a3), (4, .int a4), (5, .int a5)]) hx hb d_O_feed_79 hl (by decide) rfl (fun ls hl => ?_)
      refine lv_aload_n hx hb d_O_feed_81 rfl (lv_at hl 2 rfl) ?_
      refine va_get (D := (dC, dI)) (ci := 7) (v := .ref hbu) (C := R_O) (T := F_O) (N := 27) hx hb hw0 in_O hown hK hP 13 rfl rfl 3 (by decide) (hw0 (.fieldLink R_O 13 "TextKeeperModel" "buffer" "[B") wm_247) (fun _ h9 => h9) rfl d_O_feed_82 ?_
      refine lv_aload_n hx hb d_O_feed_85 rfl (lv_at hl 2 rfl) ?_
      refine va_get (D := (dC, dI)) (ci := 7) (v := .int (nI (σ.buf.length + 9))) (C := R_O) (T := F_O) (N := 27) hx hb hw0 in_O hown hK hP 13 rfl rfl 4 (by decide) (hw0 (.fieldLink R_O 69 "TextKeeperModel" "size" "I") wm_245) (fun _ h9 => h9) rfl d_O_feed_86 ?_
      refine lv_iload hx hb d_O_feed_89 (lv_at hl 0 rfl) ?_
      refine lv_bipush (v := 24) hx hb d_O_feed_91 (by decide +kernel) ?_
      refine lv_bipush (v := 8) hx hb d_O_feed_93 (by decide +kernel) ?_
      refine lv_iload hx hb d_O_feed_95 (lv_at hl 1 rfl) ?_
      refine lv_iconst (v := 4) hx hb d_O_feed_97 (by decide) ?_
      refine lv_irem hx hb d_O_feed_98 (by decide +kernel) ?_
      refine lv_topi (fun x_50 ex_50 => ?_)
      obtain rfl : x_50 = 1 := ex_50.trans (by decide +kernel)
      clear ex_50
      refine lv_imul hx hb d_O_feed_99 ?_
      refine lv_topi (fun x_51 ex_51 => ?_)
      obtain rfl : x_51 = 8 := ex_51.trans (by decide +kernel)
      clear ex_51
      refine lv_isub hx hb d_O_feed_100 ?_
      refine lv_topi (fun x_52 ex_52 => ?_)
      obtain rfl : x_52 = 16 := ex_52.trans (by decide +kernel)
      clear ex_52
      refine lv_ishr hx hb d_O_feed_101 ?_
      obtain ⟨x_53, ex_53⟩ : ∃ y : Int32, (a3 >>> (16 &&& 31)).toInt8.toInt32 = y := ⟨_, rfl⟩
      refine lv_i2b (v := x_53) hx hb d_O_feed_102 ex_53 ?_
      refine va_bast hx hb hK hP hD hS 0 0 rfl rfl (vp_in_nI (by omega) (by decide)) d_O_feed_103 (fun H locs hP hD hS => ?_)
      replace hP : va_P (dC, dI) vwCl [(hbu, .inl (cB, 256, .inl (upd (ff9) (Int32.toNatClampNeg (nI (σ.buf.length + 9))) (vp_nar .byte (x_53))))), (hgo, .inl (cZ, 8, .inl (fg))), (hfi, .inl (cI, 8, .inl (ff))), (hma, .inl (cI, 8, .inl (fm))), (hln, .inl (cL, 512, .inl (fl))), (hau, .inl (cI, 512, .inl (fa))), (hsu, .inl (cI, 512, .inl (fs))), (hrow, .inl (cB, 16384, .inl (fr))), (hmade, .inl (cB, 256, .inl (f))), (hbase, .inl (cB, 256, .inl (fb))), (htx9, .inl (cB, 256, .inl (ft))), (hot, .inl (cB, 256, .inl (fo))), (hpc, .inl (cB, 600, .inl (fp))), (h0, .inr (7, [.int 0, .int 0, .int (vI σ.go), .ref hbu, .int (nI (σ.buf.length + 9)), .int (nI σ.nd), .ref hgo, .ref hfi, .ref hma, .ref hln, .ref hau, .ref hsu, .ref hrow, .ref hmade, .int z_madeSize, .ref hbase, .int z_baseSize, .ref htx9, .int z_textSize, .int σ.stp, .ref hot, .int z_otherSize, .ref hpc, .int z_pieceSize, .int z_at, .int z_end, .int z_value]))] H := hP
      replace hD : va_D A [(hbu, .inl (cB, 256, .inl (upd (ff9) (Int32.toNatClampNeg (nI (σ.buf.length + 9))) (vp_nar .byte (x_53))))), (hgo, .inl (cZ, 8, .inl (fg))), (hfi, .inl (cI, 8, .inl (ff))), (hma, .inl (cI, 8, .inl (fm))), (hln, .inl (cL, 512, .inl (fl))), (hau, .inl (cI, 512, .inl (fa))), (hsu, .inl (cI, 512, .inl (fs))), (hrow, .inl (cB, 16384, .inl (fr))), (hmade, .inl (cB, 256, .inl (f))), (hbase, .inl (cB, 256, .inl (fb))), (htx9, .inl (cB, 256, .inl (ft))), (hot, .inl (cB, 256, .inl (fo))), (hpc, .inl (cB, 600, .inl (fp))), (h0, .inr (7, [.int 0, .int 0, .int (vI σ.go), .ref hbu, .int (nI (σ.buf.length + 9)), .int (nI σ.nd), .ref hgo, .ref hfi, .ref hma, .ref hln, .ref hau, .ref hsu, .ref hrow, .ref hmade, .int z_madeSize, .ref hbase, .int z_baseSize, .ref htx9, .int z_textSize, .int σ.stp, .ref hot, .int z_otherSize, .ref hpc, .int z_pieceSize, .int z_at, .int z_end, .int z_value]))] := hD
      have eS : upd (ff9) (Int32.toNatClampNeg (nI (σ.buf.length + 9))) (vp_nar .byte (x_53)) = upd ff9 (σ.buf.length + 9) (nbb (a3 >>> (16 &&& 31))) := by rw [nI_clamp (by omega), ← ex_53]; exact congrArg (upd ff9 (σ.buf.length + 9)) (pk_vb _)
      rw [eS] at hP hD
      have ht10 := tx_push ht9 (nbb_B (a3 >>> (16 &&& 31)))
      clear eS
      generalize upd ff9 (σ.buf.length + 9) (nbb (a3 >>> (16 &&& 31))) = ff10 at hP hD ht10
      refine lv_aload_n hx hb d_O_feed_104 rfl (lv_at hl 2 rfl) ?_
      refine lv_dup hx hb d_O_feed_105 rfl ?_
      refine va_get (D := (dC, dI)) (ci := 7) (v := .int (nI (σ.buf.length + 9))) (C := R_O) (T := F_O) (N := 27) hx hb hw0 in_O hown hK hP 13 rfl rfl 4 (by decide) (hw0 (.fieldLink R_O 69 "TextKeeperModel" "size" "I") wm_245) (fun _ h9 => h9) rfl d_O_feed_106 ?_
      refine lv_iconst (v := 1) hx hb d_O_feed_109 (by decide) ?_
      refine lv_iadd hx hb d_O_feed_110 ?_
      refine lv_topi (fun x_54 ex_54 => ?_)
      obtain rfl : x_54 = (nI (σ.buf.length + 10)) := by rw [ex_54]; exact nI_1 _
      clear ex_54
      refine va_put (D := (dC, dI)) (ci := 7) (v := .int (nI (σ.buf.length + 10))) (ty := .int) (C := R_O) (T := F_O) (N := 27) hx hb hw0 in_O ft_O tk_O nk_O hown hK hP hD hS 13 rfl rfl 4 (by decide) (hw0 (.fieldLink R_O 69 "TextKeeperModel" "size" "I") wm_245) (fun _ h9 => h9) rfl (by decide +kernel) rfl rfl (Nat.le_of_ble_eq_true rfl) d_O_feed_111 (fun H locs hP hD hS => ?_)
      replace hP : va_P (dC, dI) vwCl [(hbu, .inl (cB, 256, .inl (ff10))), (hgo, .inl (cZ, 8, .inl (fg))), (hfi, .inl (cI, 8, .inl (ff))), (hma, .inl (cI, 8, .inl (fm))), (hln, .inl (cL, 512, .inl (fl))), (hau, .inl (cI, 512, .inl (fa))), (hsu, .inl (cI, 512, .inl (fs))), (hrow, .inl (cB, 16384, .inl (fr))), (hmade, .inl (cB, 256, .inl (f))), (hbase, .inl (cB, 256, .inl (fb))), (htx9, .inl (cB, 256, .inl (ft))), (hot, .inl (cB, 256, .inl (fo))), (hpc, .inl (cB, 600, .inl (fp))), (h0, .inr (7, [.int 0, .int 0, .int (vI σ.go), .ref hbu, .int (nI (σ.buf.length + 10)), .int (nI σ.nd), .ref hgo, .ref hfi, .ref hma, .ref hln, .ref hau, .ref hsu, .ref hrow, .ref hmade, .int z_madeSize, .ref hbase, .int z_baseSize, .ref htx9, .int z_textSize, .int σ.stp, .ref hot, .int z_otherSize, .ref hpc, .int z_pieceSize, .int z_at, .int z_end, .int z_value]))] H := hP
      replace hD : va_D A [(hbu, .inl (cB, 256, .inl (ff10))), (hgo, .inl (cZ, 8, .inl (fg))), (hfi, .inl (cI, 8, .inl (ff))), (hma, .inl (cI, 8, .inl (fm))), (hln, .inl (cL, 512, .inl (fl))), (hau, .inl (cI, 512, .inl (fa))), (hsu, .inl (cI, 512, .inl (fs))), (hrow, .inl (cB, 16384, .inl (fr))), (hmade, .inl (cB, 256, .inl (f))), (hbase, .inl (cB, 256, .inl (fb))), (htx9, .inl (cB, 256, .inl (ft))), (hot, .inl (cB, 256, .inl (fo))), (hpc, .inl (cB, 600, .inl (fp))), (h0, .inr (7, [.int 0, .int 0, .int (vI σ.go), .ref hbu, .int (nI (σ.buf.length + 10)), .int (nI σ.nd), .ref hgo, .ref hfi, .ref hma, .ref hln, .ref hau, .ref hsu, .ref hrow, .ref hmade, .int z_madeSize, .ref hbase, .int z_baseSize, .ref htx9, .int z_textSize, .int σ.stp, .ref hot, .int z_otherSize, .ref hpc, .int z_pieceSize, .int z_at, .int z_end, .int z_value]))] := hD
      refine lv_iinc (v := 10) (lv' := [(6, .int 10), (7, .int a3), (0, .ref h0), (1, .int a1), (2, .int a2), (3, .int a3), (4, .int a4), (5, .int a5)]) hx hb d_O_feed_114 hl (k := 1) rfl (by decide +kernel) (by decide) rfl (fun ls hl => ?_)
      refine lv_goto (tgt := 26) hx hb d_O_feed_117 (by decide) ?_
      refine lv_iload hx hb d_O_feed_26 (lv_at hl 0 rfl) ?_
      refine lv_bipush (v := 20) hx hb d_O_feed_28 (by decide +kernel) ?_
      refine lv_icmp_ge (tgt := 120) hx hb d_O_feed_30 (by decide) (fun h9 => absurd h9 (by decide +kernel)) (fun _ => ?_)
      refine lv_iload hx hb d_O_feed_33 (lv_at hl 0 rfl) ?_
      refine lv_iconst (v := 4) hx hb d_O_feed_35 (by decide) ?_
      refine lv_icmp_ge (tgt := 43) hx hb d_O_feed_36 (by decide) (fun _ => ?_) (fun h9 => absurd h9 (by decide +kernel))
      refine lv_iload hx hb d_O_feed_43 (lv_at hl 0 rfl) ?_
      refine lv_bipush (v := 8) hx hb d_O_feed_45 (by decide +kernel) ?_
      refine lv_icmp_ge (tgt := 54) hx hb d_O_feed_47 (by decide) (fun _ => ?_) (fun h9 => absurd h9 (by decide +kernel))
      refine lv_iload hx hb d_O_feed_54 (lv_at hl 0 rfl) ?_
      refine lv_bipush (v := 12) hx hb d_O_feed_56 (by decide +kernel) ?_
      refine lv_icmp_ge (tgt := 65) hx hb d_O_feed_58 (by decide) (fun h9 => absurd h9 (by decide +kernel)) (fun _ => ?_)
      refine lv_iload_n hx hb d_O_feed_61 rfl (lv_at hl 5 rfl) ?_
      refine lv_goto (tgt := 79) hx hb d_O_feed_62 (by decide) ?_
      refine lv_istore (lv' := [(7, .int a3), (6, .int 10), (0, .ref h0), (1, .int a1), (2, .int a2), (3, .int a3), (4, .int a4), (5, .int a5)]) hx hb d_O_feed_79 hl (by decide) rfl (fun ls hl => ?_)
      refine lv_aload_n hx hb d_O_feed_81 rfl (lv_at hl 2 rfl) ?_
      refine va_get (D := (dC, dI)) (ci := 7) (v := .ref hbu) (C := R_O) (T := F_O) (N := 27) hx hb hw0 in_O hown hK hP 13 rfl rfl 3 (by decide) (hw0 (.fieldLink R_O 13 "TextKeeperModel" "buffer" "[B") wm_247) (fun _ h9 => h9) rfl d_O_feed_82 ?_
      refine lv_aload_n hx hb d_O_feed_85 rfl (lv_at hl 2 rfl) ?_
      refine va_get (D := (dC, dI)) (ci := 7) (v := .int (nI (σ.buf.length + 10))) (C := R_O) (T := F_O) (N := 27) hx hb hw0 in_O hown hK hP 13 rfl rfl 4 (by decide) (hw0 (.fieldLink R_O 69 "TextKeeperModel" "size" "I") wm_245) (fun _ h9 => h9) rfl d_O_feed_86 ?_
      refine lv_iload hx hb d_O_feed_89 (lv_at hl 0 rfl) ?_
      refine lv_bipush (v := 24) hx hb d_O_feed_91 (by decide +kernel) ?_
      refine lv_bipush (v := 8) hx hb d_O_feed_93 (by decide +kernel) ?_
      refine lv_iload hx hb d_O_feed_95 (lv_at hl 1 rfl) ?_
      refine lv_iconst (v := 4) hx hb d_O_feed_97 (by decide) ?_
      refine lv_irem hx hb d_O_feed_98 (by decide +kernel) ?_
      refine lv_topi (fun x_55 ex_55 => ?_)
      obtain rfl : x_55 = 2 := ex_55.trans (by decide +kernel)
      clear ex_55
      refine lv_imul hx hb d_O_feed_99 ?_
      refine lv_topi (fun x_56 ex_56 => ?_)
      obtain rfl : x_56 = 16 := ex_56.trans (by decide +kernel)
      clear ex_56
      refine lv_isub hx hb d_O_feed_100 ?_
      refine lv_topi (fun x_57 ex_57 => ?_)
      obtain rfl : x_57 = 8 := ex_57.trans (by decide +kernel)
      clear ex_57
      refine lv_ishr hx hb d_O_feed_101 ?_
      obtain ⟨x_58, ex_58⟩ : ∃ y : Int32, (a3 >>> (8 &&& 31)).toInt8.toInt32 = y := ⟨_, rfl⟩
      refine lv_i2b (v := x_58) hx hb d_O_feed_102 ex_58 ?_
      refine va_bast hx hb hK hP hD hS 0 0 rfl rfl (vp_in_nI (by omega) (by decide)) d_O_feed_103 (fun H locs hP hD hS => ?_)
      replace hP : va_P (dC, dI) vwCl [(hbu, .inl (cB, 256, .inl (upd (ff10) (Int32.toNatClampNeg (nI (σ.buf.length + 10))) (vp_nar .byte (x_58))))), (hgo, .inl (cZ, 8, .inl (fg))), (hfi, .inl (cI, 8, .inl (ff))), (hma, .inl (cI, 8, .inl (fm))), (hln, .inl (cL, 512, .inl (fl))), (hau, .inl (cI, 512, .inl (fa))), (hsu, .inl (cI, 512, .inl (fs))), (hrow, .inl (cB, 16384, .inl (fr))), (hmade, .inl (cB, 256, .inl (f))), (hbase, .inl (cB, 256, .inl (fb))), (htx9, .inl (cB, 256, .inl (ft))), (hot, .inl (cB, 256, .inl (fo))), (hpc, .inl (cB, 600, .inl (fp))), (h0, .inr (7, [.int 0, .int 0, .int (vI σ.go), .ref hbu, .int (nI (σ.buf.length + 10)), .int (nI σ.nd), .ref hgo, .ref hfi, .ref hma, .ref hln, .ref hau, .ref hsu, .ref hrow, .ref hmade, .int z_madeSize, .ref hbase, .int z_baseSize, .ref htx9, .int z_textSize, .int σ.stp, .ref hot, .int z_otherSize, .ref hpc, .int z_pieceSize, .int z_at, .int z_end, .int z_value]))] H := hP
      replace hD : va_D A [(hbu, .inl (cB, 256, .inl (upd (ff10) (Int32.toNatClampNeg (nI (σ.buf.length + 10))) (vp_nar .byte (x_58))))), (hgo, .inl (cZ, 8, .inl (fg))), (hfi, .inl (cI, 8, .inl (ff))), (hma, .inl (cI, 8, .inl (fm))), (hln, .inl (cL, 512, .inl (fl))), (hau, .inl (cI, 512, .inl (fa))), (hsu, .inl (cI, 512, .inl (fs))), (hrow, .inl (cB, 16384, .inl (fr))), (hmade, .inl (cB, 256, .inl (f))), (hbase, .inl (cB, 256, .inl (fb))), (htx9, .inl (cB, 256, .inl (ft))), (hot, .inl (cB, 256, .inl (fo))), (hpc, .inl (cB, 600, .inl (fp))), (h0, .inr (7, [.int 0, .int 0, .int (vI σ.go), .ref hbu, .int (nI (σ.buf.length + 10)), .int (nI σ.nd), .ref hgo, .ref hfi, .ref hma, .ref hln, .ref hau, .ref hsu, .ref hrow, .ref hmade, .int z_madeSize, .ref hbase, .int z_baseSize, .ref htx9, .int z_textSize, .int σ.stp, .ref hot, .int z_otherSize, .ref hpc, .int z_pieceSize, .int z_at, .int z_end, .int z_value]))] := hD
      have eS : upd (ff10) (Int32.toNatClampNeg (nI (σ.buf.length + 10))) (vp_nar .byte (x_58)) = upd ff10 (σ.buf.length + 10) (nbb (a3 >>> (8 &&& 31))) := by rw [nI_clamp (by omega), ← ex_58]; exact congrArg (upd ff10 (σ.buf.length + 10)) (pk_vb _)
      rw [eS] at hP hD
      have ht11 := tx_push ht10 (nbb_B (a3 >>> (8 &&& 31)))
      clear eS
      generalize upd ff10 (σ.buf.length + 10) (nbb (a3 >>> (8 &&& 31))) = ff11 at hP hD ht11
      refine lv_aload_n hx hb d_O_feed_104 rfl (lv_at hl 2 rfl) ?_
      refine lv_dup hx hb d_O_feed_105 rfl ?_
      refine va_get (D := (dC, dI)) (ci := 7) (v := .int (nI (σ.buf.length + 10))) (C := R_O) (T := F_O) (N := 27) hx hb hw0 in_O hown hK hP 13 rfl rfl 4 (by decide) (hw0 (.fieldLink R_O 69 "TextKeeperModel" "size" "I") wm_245) (fun _ h9 => h9) rfl d_O_feed_106 ?_
      refine lv_iconst (v := 1) hx hb d_O_feed_109 (by decide) ?_
      refine lv_iadd hx hb d_O_feed_110 ?_
      refine lv_topi (fun x_59 ex_59 => ?_)
      obtain rfl : x_59 = (nI (σ.buf.length + 11)) := by rw [ex_59]; exact nI_1 _
      clear ex_59
      refine va_put (D := (dC, dI)) (ci := 7) (v := .int (nI (σ.buf.length + 11))) (ty := .int) (C := R_O) (T := F_O) (N := 27) hx hb hw0 in_O ft_O tk_O nk_O hown hK hP hD hS 13 rfl rfl 4 (by decide) (hw0 (.fieldLink R_O 69 "TextKeeperModel" "size" "I") wm_245) (fun _ h9 => h9) rfl (by decide +kernel) rfl rfl (Nat.le_of_ble_eq_true rfl) d_O_feed_111 (fun H locs hP hD hS => ?_)
      replace hP : va_P (dC, dI) vwCl [(hbu, .inl (cB, 256, .inl (ff11))), (hgo, .inl (cZ, 8, .inl (fg))), (hfi, .inl (cI, 8, .inl (ff))), (hma, .inl (cI, 8, .inl (fm))), (hln, .inl (cL, 512, .inl (fl))), (hau, .inl (cI, 512, .inl (fa))), (hsu, .inl (cI, 512, .inl (fs))), (hrow, .inl (cB, 16384, .inl (fr))), (hmade, .inl (cB, 256, .inl (f))), (hbase, .inl (cB, 256, .inl (fb))), (htx9, .inl (cB, 256, .inl (ft))), (hot, .inl (cB, 256, .inl (fo))), (hpc, .inl (cB, 600, .inl (fp))), (h0, .inr (7, [.int 0, .int 0, .int (vI σ.go), .ref hbu, .int (nI (σ.buf.length + 11)), .int (nI σ.nd), .ref hgo, .ref hfi, .ref hma, .ref hln, .ref hau, .ref hsu, .ref hrow, .ref hmade, .int z_madeSize, .ref hbase, .int z_baseSize, .ref htx9, .int z_textSize, .int σ.stp, .ref hot, .int z_otherSize, .ref hpc, .int z_pieceSize, .int z_at, .int z_end, .int z_value]))] H := hP
      replace hD : va_D A [(hbu, .inl (cB, 256, .inl (ff11))), (hgo, .inl (cZ, 8, .inl (fg))), (hfi, .inl (cI, 8, .inl (ff))), (hma, .inl (cI, 8, .inl (fm))), (hln, .inl (cL, 512, .inl (fl))), (hau, .inl (cI, 512, .inl (fa))), (hsu, .inl (cI, 512, .inl (fs))), (hrow, .inl (cB, 16384, .inl (fr))), (hmade, .inl (cB, 256, .inl (f))), (hbase, .inl (cB, 256, .inl (fb))), (htx9, .inl (cB, 256, .inl (ft))), (hot, .inl (cB, 256, .inl (fo))), (hpc, .inl (cB, 600, .inl (fp))), (h0, .inr (7, [.int 0, .int 0, .int (vI σ.go), .ref hbu, .int (nI (σ.buf.length + 11)), .int (nI σ.nd), .ref hgo, .ref hfi, .ref hma, .ref hln, .ref hau, .ref hsu, .ref hrow, .ref hmade, .int z_madeSize, .ref hbase, .int z_baseSize, .ref htx9, .int z_textSize, .int σ.stp, .ref hot, .int z_otherSize, .ref hpc, .int z_pieceSize, .int z_at, .int z_end, .int z_value]))] := hD
      refine lv_iinc (v := 11) (lv' := [(6, .int 11), (7, .int a3), (0, .ref h0), (1, .int a1), (2, .int a2), (3, .int a3), (4, .int a4), (5, .int a5)]) hx hb d_O_feed_114 hl (k := 1) rfl (by decide +kernel) (by decide) rfl (fun ls hl => ?_)
      refine lv_goto (tgt := 26) hx hb d_O_feed_117 (by decide) ?_
      refine lv_iload hx hb d_O_feed_26 (lv_at hl 0 rfl) ?_
      refine lv_bipush (v := 20) hx hb d_O_feed_28 (by decide +kernel) ?_
      refine lv_icmp_ge (tgt := 120) hx hb d_O_feed_30 (by decide) (fun h9 => absurd h9 (by decide +kernel)) (fun _ => ?_)
      refine lv_iload hx hb d_O_feed_33 (lv_at hl 0 rfl) ?_
      refine lv_iconst (v := 4) hx hb d_O_feed_35 (by decide) ?_
      refine lv_icmp_ge (tgt := 43) hx hb d_O_feed_36 (by decide) (fun _ => ?_) (fun h9 => absurd h9 (by decide +kernel))
      refine lv_iload hx hb d_O_feed_43 (lv_at hl 0 rfl) ?_
      refine lv_bipush (v := 8) hx hb d_O_feed_45 (by decide +kernel) ?_
      refine lv_icmp_ge (tgt := 54) hx hb d_O_feed_47 (by decide) (fun _ => ?_) (fun h9 => absurd h9 (by decide +kernel))
      refine lv_iload hx hb d_O_feed_54 (lv_at hl 0 rfl) ?_
      refine lv_bipush (v := 12) hx hb d_O_feed_56 (by decide +kernel) ?_
      refine lv_icmp_ge (tgt := 65) hx hb d_O_feed_58 (by decide) (fun h9 => absurd h9 (by decide +kernel)) (fun _ => ?_)
      refine lv_iload_n hx hb d_O_feed_61 rfl (lv_at hl 5 rfl) ?_
      refine lv_goto (tgt := 79) hx hb d_O_feed_62 (by decide) ?_
      refine lv_istore (lv' := [(7, .int a3), (6, .int 11), (0, .ref h0), (1, .int a1), (2, .int a2), (3, .int a3), (4, .int a4), (5, .int a5)]) hx hb d_O_feed_79 hl (by decide) rfl (fun ls hl => ?_)
      refine lv_aload_n hx hb d_O_feed_81 rfl (lv_at hl 2 rfl) ?_
      refine va_get (D := (dC, dI)) (ci := 7) (v := .ref hbu) (C := R_O) (T := F_O) (N := 27) hx hb hw0 in_O hown hK hP 13 rfl rfl 3 (by decide) (hw0 (.fieldLink R_O 13 "TextKeeperModel" "buffer" "[B") wm_247) (fun _ h9 => h9) rfl d_O_feed_82 ?_
      refine lv_aload_n hx hb d_O_feed_85 rfl (lv_at hl 2 rfl) ?_
      refine va_get (D := (dC, dI)) (ci := 7) (v := .int (nI (σ.buf.length + 11))) (C := R_O) (T := F_O) (N := 27) hx hb hw0 in_O hown hK hP 13 rfl rfl 4 (by decide) (hw0 (.fieldLink R_O 69 "TextKeeperModel" "size" "I") wm_245) (fun _ h9 => h9) rfl d_O_feed_86 ?_
      refine lv_iload hx hb d_O_feed_89 (lv_at hl 0 rfl) ?_
      refine lv_bipush (v := 24) hx hb d_O_feed_91 (by decide +kernel) ?_
      refine lv_bipush (v := 8) hx hb d_O_feed_93 (by decide +kernel) ?_
      refine lv_iload hx hb d_O_feed_95 (lv_at hl 1 rfl) ?_
      refine lv_iconst (v := 4) hx hb d_O_feed_97 (by decide) ?_
      refine lv_irem hx hb d_O_feed_98 (by decide +kernel) ?_
      refine lv_topi (fun x_60 ex_60 => ?_)
      obtain rfl : x_60 = 3 := ex_60.trans (by decide +kernel)
      clear ex_60
      refine lv_imul hx hb d_O_feed_99 ?_
      refine lv_topi (fun x_61 ex_61 => ?_)
      obtain rfl : x_61 = 24 := ex_61.trans (by decide +kernel)
      clear ex_61
      refine lv_isub hx hb d_O_feed_100 ?_
      refine lv_topi (fun x_62 ex_62 => ?_)
      obtain rfl : x_62 = 0 := ex_62.trans (by decide +kernel)
      clear ex_62
      refine lv_ishr hx hb d_O_feed_101 ?_
      obtain ⟨x_63, ex_63⟩ : ∃ y : Int32, (a3 >>> (0 &&& 31)).toInt8.toInt32 = y := ⟨_, rfl⟩
      refine lv_i2b (v := x_63) hx hb d_O_feed_102 ex_63 ?_
      refine va_bast hx hb hK hP hD hS 0 0 rfl rfl (vp_in_nI (by omega) (by decide)) d_O_feed_103 (fun H locs hP hD hS => ?_)
      replace hP : va_P (dC, dI) vwCl [(hbu, .inl (cB, 256, .inl (upd (ff11) (Int32.toNatClampNeg (nI (σ.buf.length + 11))) (vp_nar .byte (x_63))))), (hgo, .inl (cZ, 8, .inl (fg))), (hfi, .inl (cI, 8, .inl (ff))), (hma, .inl (cI, 8, .inl (fm))), (hln, .inl (cL, 512, .inl (fl))), (hau, .inl (cI, 512, .inl (fa))), (hsu, .inl (cI, 512, .inl (fs))), (hrow, .inl (cB, 16384, .inl (fr))), (hmade, .inl (cB, 256, .inl (f))), (hbase, .inl (cB, 256, .inl (fb))), (htx9, .inl (cB, 256, .inl (ft))), (hot, .inl (cB, 256, .inl (fo))), (hpc, .inl (cB, 600, .inl (fp))), (h0, .inr (7, [.int 0, .int 0, .int (vI σ.go), .ref hbu, .int (nI (σ.buf.length + 11)), .int (nI σ.nd), .ref hgo, .ref hfi, .ref hma, .ref hln, .ref hau, .ref hsu, .ref hrow, .ref hmade, .int z_madeSize, .ref hbase, .int z_baseSize, .ref htx9, .int z_textSize, .int σ.stp, .ref hot, .int z_otherSize, .ref hpc, .int z_pieceSize, .int z_at, .int z_end, .int z_value]))] H := hP
      replace hD : va_D A [(hbu, .inl (cB, 256, .inl (upd (ff11) (Int32.toNatClampNeg (nI (σ.buf.length + 11))) (vp_nar .byte (x_63))))), (hgo, .inl (cZ, 8, .inl (fg))), (hfi, .inl (cI, 8, .inl (ff))), (hma, .inl (cI, 8, .inl (fm))), (hln, .inl (cL, 512, .inl (fl))), (hau, .inl (cI, 512, .inl (fa))), (hsu, .inl (cI, 512, .inl (fs))), (hrow, .inl (cB, 16384, .inl (fr))), (hmade, .inl (cB, 256, .inl (f))), (hbase, .inl (cB, 256, .inl (fb))), (htx9, .inl (cB, 256, .inl (ft))), (hot, .inl (cB, 256, .inl (fo))), (hpc, .inl (cB, 600, .inl (fp))), (h0, .inr (7, [.int 0, .int 0, .int (vI σ.go), .ref hbu, .int (nI (σ.buf.length + 11)), .int (nI σ.nd), .ref hgo, .ref hfi, .ref hma, .ref hln, .ref hau, .ref hsu, .ref hrow, .ref hmade, .int z_madeSize, .ref hbase, .int z_baseSize, .ref htx9, .int z_textSize, .int σ.stp, .ref hot, .int z_otherSize, .ref hpc, .int z_pieceSize, .int z_at, .int z_end, .int z_value]))] := hD
      have eS : upd (ff11) (Int32.toNatClampNeg (nI (σ.buf.length + 11))) (vp_nar .byte (x_63)) = upd ff11 (σ.buf.length + 11) (nbb (a3 >>> (0 &&& 31))) := by rw [nI_clamp (by omega), ← ex_63]; exact congrArg (upd ff11 (σ.buf.length + 11)) (pk_vb _)
      rw [eS] at hP hD
      have ht12 := tx_push ht11 (nbb_B (a3 >>> (0 &&& 31)))
      clear eS
      generalize upd ff11 (σ.buf.length + 11) (nbb (a3 >>> (0 &&& 31))) = ff12 at hP hD ht12
      refine lv_aload_n hx hb d_O_feed_104 rfl (lv_at hl 2 rfl) ?_
      refine lv_dup hx hb d_O_feed_105 rfl ?_
      refine va_get (D := (dC, dI)) (ci := 7) (v := .int (nI (σ.buf.length + 11))) (C := R_O) (T := F_O) (N := 27) hx hb hw0 in_O hown hK hP 13 rfl rfl 4 (by decide) (hw0 (.fieldLink R_O 69 "TextKeeperModel" "size" "I") wm_245) (fun _ h9 => h9) rfl d_O_feed_106 ?_
      refine lv_iconst (v := 1) hx hb d_O_feed_109 (by decide) ?_
      refine lv_iadd hx hb d_O_feed_110 ?_
      refine lv_topi (fun x_64 ex_64 => ?_)
      obtain rfl : x_64 = (nI (σ.buf.length + 12)) := by rw [ex_64]; exact nI_1 _
      clear ex_64
      refine va_put (D := (dC, dI)) (ci := 7) (v := .int (nI (σ.buf.length + 12))) (ty := .int) (C := R_O) (T := F_O) (N := 27) hx hb hw0 in_O ft_O tk_O nk_O hown hK hP hD hS 13 rfl rfl 4 (by decide) (hw0 (.fieldLink R_O 69 "TextKeeperModel" "size" "I") wm_245) (fun _ h9 => h9) rfl (by decide +kernel) rfl rfl (Nat.le_of_ble_eq_true rfl) d_O_feed_111 (fun H locs hP hD hS => ?_)
      replace hP : va_P (dC, dI) vwCl [(hbu, .inl (cB, 256, .inl (ff12))), (hgo, .inl (cZ, 8, .inl (fg))), (hfi, .inl (cI, 8, .inl (ff))), (hma, .inl (cI, 8, .inl (fm))), (hln, .inl (cL, 512, .inl (fl))), (hau, .inl (cI, 512, .inl (fa))), (hsu, .inl (cI, 512, .inl (fs))), (hrow, .inl (cB, 16384, .inl (fr))), (hmade, .inl (cB, 256, .inl (f))), (hbase, .inl (cB, 256, .inl (fb))), (htx9, .inl (cB, 256, .inl (ft))), (hot, .inl (cB, 256, .inl (fo))), (hpc, .inl (cB, 600, .inl (fp))), (h0, .inr (7, [.int 0, .int 0, .int (vI σ.go), .ref hbu, .int (nI (σ.buf.length + 12)), .int (nI σ.nd), .ref hgo, .ref hfi, .ref hma, .ref hln, .ref hau, .ref hsu, .ref hrow, .ref hmade, .int z_madeSize, .ref hbase, .int z_baseSize, .ref htx9, .int z_textSize, .int σ.stp, .ref hot, .int z_otherSize, .ref hpc, .int z_pieceSize, .int z_at, .int z_end, .int z_value]))] H := hP
      replace hD : va_D A [(hbu, .inl (cB, 256, .inl (ff12))), (hgo, .inl (cZ, 8, .inl (fg))), (hfi, .inl (cI, 8, .inl (ff))), (hma, .inl (cI, 8, .inl (fm))), (hln, .inl (cL, 512, .inl (fl))), (hau, .inl (cI, 512, .inl (fa))), (hsu, .inl (cI, 512, .inl (fs))), (hrow, .inl (cB, 16384, .inl (fr))), (hmade, .inl (cB, 256, .inl (f))), (hbase, .inl (cB, 256, .inl (fb))), (htx9, .inl (cB, 256, .inl (ft))), (hot, .inl (cB, 256, .inl (fo))), (hpc, .inl (cB, 600, .inl (fp))), (h0, .inr (7, [.int 0, .int 0, .int (vI σ.go), .ref hbu, .int (nI (σ.buf.length + 12)), .int (nI σ.nd), .ref hgo, .ref hfi, .ref hma, .ref hln, .ref hau, .ref hsu, .ref hrow, .ref hmade, .int z_madeSize, .ref hbase, .int z_baseSize, .ref htx9, .int z_textSize, .int σ.stp, .ref hot, .int z_otherSize, .ref hpc, .int z_pieceSize, .int z_at, .int z_end, .int z_value]))] := hD
      refine lv_iinc (v := 12) (lv' := [(6, .int 12), (7, .int a3), (0, .ref h0), (1, .int a1), (2, .int a2), (3, .int a3), (4, .int a4), (5, .int a5)]) hx hb d_O_feed_114 hl (k := 1) rfl (by decide +kernel) (by decide) rfl (fun ls hl => ?_)
      refine lv_goto (tgt := 26) hx hb d_O_feed_117 (by decide) ?_
      refine lv_iload hx hb d_O_feed_26 (lv_at hl 0 rfl) ?_
      refine lv_bipush (v := 20) hx hb d_O_feed_28 (by decide +kernel) ?_
      refine lv_icmp_ge (tgt := 120) hx hb d_O_feed_30 (by decide) (fun h9 => absurd h9 (by decide +kernel)) (fun _ => ?_)
      refine lv_iload hx hb d_O_feed_33 (lv_at hl 0 rfl) ?_
      refine lv_iconst (v := 4) hx hb d_O_feed_35 (by decide) ?_
      refine lv_icmp_ge (tgt := 43) hx hb d_O_feed_36 (by decide) (fun _ => ?_) (fun h9 => absurd h9 (by decide +kernel))
      refine lv_iload hx hb d_O_feed_43 (lv_at hl 0 rfl) ?_
      refine lv_bipush (v := 8) hx hb d_O_feed_45 (by decide +kernel) ?_
      refine lv_icmp_ge (tgt := 54) hx hb d_O_feed_47 (by decide) (fun _ => ?_) (fun h9 => absurd h9 (by decide +kernel))
      refine lv_iload hx hb d_O_feed_54 (lv_at hl 0 rfl) ?_
      refine lv_bipush (v := 12) hx hb d_O_feed_56 (by decide +kernel) ?_
      refine lv_icmp_ge (tgt := 65) hx hb d_O_feed_58 (by decide) (fun _ => ?_) (fun h9 => absurd h9 (by decide +kernel))
      refine lv_iload hx hb d_O_feed_65 (lv_at hl 0 rfl) ?_
      refine lv_bipush (v := 16) hx hb d_O_feed_67 (by decide +kernel) ?_
      refine lv_icmp_ge (tgt := 77) hx hb d_O_feed_69 (by decide) (fun h9 => absurd h9 (by decide +kernel)) (fun _ => ?_)
      refine lv_iload hx hb d_O_feed_72 (lv_at hl 6 rfl) ?_
      refine lv_goto (tgt := 79) hx hb d_O_feed_74 (by decide) ?_
      refine lv_istore (lv' := [(7, .int a4), (6, .int 12), (0, .ref h0), (1, .int a1), (2, .int a2), (3, .int a3), (4, .int a4), (5, .int a5)]) hx hb d_O_feed_79 hl (by decide) rfl (fun ls hl => ?_)
      refine lv_aload_n hx hb d_O_feed_81 rfl (lv_at hl 2 rfl) ?_
      refine va_get (D := (dC, dI)) (ci := 7) (v := .ref hbu) (C := R_O) (T := F_O) (N := 27) hx hb hw0 in_O hown hK hP 13 rfl rfl 3 (by decide) (hw0 (.fieldLink R_O 13 "TextKeeperModel" "buffer" "[B") wm_247) (fun _ h9 => h9) rfl d_O_feed_82 ?_
      refine lv_aload_n hx hb d_O_feed_85 rfl (lv_at hl 2 rfl) ?_
      refine va_get (D := (dC, dI)) (ci := 7) (v := .int (nI (σ.buf.length + 12))) (C := R_O) (T := F_O) (N := 27) hx hb hw0 in_O hown hK hP 13 rfl rfl 4 (by decide) (hw0 (.fieldLink R_O 69 "TextKeeperModel" "size" "I") wm_245) (fun _ h9 => h9) rfl d_O_feed_86 ?_
      refine lv_iload hx hb d_O_feed_89 (lv_at hl 0 rfl) ?_
      refine lv_bipush (v := 24) hx hb d_O_feed_91 (by decide +kernel) ?_
      refine lv_bipush (v := 8) hx hb d_O_feed_93 (by decide +kernel) ?_
      refine lv_iload hx hb d_O_feed_95 (lv_at hl 1 rfl) ?_
      refine lv_iconst (v := 4) hx hb d_O_feed_97 (by decide) ?_
      refine lv_irem hx hb d_O_feed_98 (by decide +kernel) ?_
      refine lv_topi (fun x_65 ex_65 => ?_)
      obtain rfl : x_65 = 0 := ex_65.trans (by decide +kernel)
      clear ex_65
      refine lv_imul hx hb d_O_feed_99 ?_
      refine lv_topi (fun x_66 ex_66 => ?_)
      obtain rfl : x_66 = 0 := ex_66.trans (by decide +kernel)
      clear ex_66
      refine lv_isub hx hb d_O_feed_100 ?_
      refine lv_topi (fun x_67 ex_67 => ?_)
      obtain rfl : x_67 = 24 := ex_67.trans (by decide +kernel)
      clear ex_67
      refine lv_ishr hx hb d_O_feed_101 ?_
      obtain ⟨x_68, ex_68⟩ : ∃ y : Int32, (a4 >>> (24 &&& 31)).toInt8.toInt32 = y := ⟨_, rfl⟩
      refine lv_i2b (v := x_68) hx hb d_O_feed_102 ex_68 ?_
      refine va_bast hx hb hK hP hD hS 0 0 rfl rfl (vp_in_nI (by omega) (by decide)) d_O_feed_103 (fun H locs hP hD hS => ?_)
      replace hP : va_P (dC, dI) vwCl [(hbu, .inl (cB, 256, .inl (upd (ff12) (Int32.toNatClampNeg (nI (σ.buf.length + 12))) (vp_nar .byte (x_68))))), (hgo, .inl (cZ, 8, .inl (fg))), (hfi, .inl (cI, 8, .inl (ff))), (hma, .inl (cI, 8, .inl (fm))), (hln, .inl (cL, 512, .inl (fl))), (hau, .inl (cI, 512, .inl (fa))), (hsu, .inl (cI, 512, .inl (fs))), (hrow, .inl (cB, 16384, .inl (fr))), (hmade, .inl (cB, 256, .inl (f))), (hbase, .inl (cB, 256, .inl (fb))), (htx9, .inl (cB, 256, .inl (ft))), (hot, .inl (cB, 256, .inl (fo))), (hpc, .inl (cB, 600, .inl (fp))), (h0, .inr (7, [.int 0, .int 0, .int (vI σ.go), .ref hbu, .int (nI (σ.buf.length + 12)), .int (nI σ.nd), .ref hgo, .ref hfi, .ref hma, .ref hln, .ref hau, .ref hsu, .ref hrow, .ref hmade, .int z_madeSize, .ref hbase, .int z_baseSize, .ref htx9, .int z_textSize, .int σ.stp, .ref hot, .int z_otherSize, .ref hpc, .int z_pieceSize, .int z_at, .int z_end, .int z_value]))] H := hP
      replace hD : va_D A [(hbu, .inl (cB, 256, .inl (upd (ff12) (Int32.toNatClampNeg (nI (σ.buf.length + 12))) (vp_nar .byte (x_68))))), (hgo, .inl (cZ, 8, .inl (fg))), (hfi, .inl (cI, 8, .inl (ff))), (hma, .inl (cI, 8, .inl (fm))), (hln, .inl (cL, 512, .inl (fl))), (hau, .inl (cI, 512, .inl (fa))), (hsu, .inl (cI, 512, .inl (fs))), (hrow, .inl (cB, 16384, .inl (fr))), (hmade, .inl (cB, 256, .inl (f))), (hbase, .inl (cB, 256, .inl (fb))), (htx9, .inl (cB, 256, .inl (ft))), (hot, .inl (cB, 256, .inl (fo))), (hpc, .inl (cB, 600, .inl (fp))), (h0, .inr (7, [.int 0, .int 0, .int (vI σ.go), .ref hbu, .int (nI (σ.buf.length + 12)), .int (nI σ.nd), .ref hgo, .ref hfi, .ref hma, .ref hln, .ref hau, .ref hsu, .ref hrow, .ref hmade, .int z_madeSize, .ref hbase, .int z_baseSize, .ref htx9, .int z_textSize, .int σ.stp, .ref hot, .int z_otherSize, .ref hpc, .int z_pieceSize, .int z_at, .int z_end, .int z_value]))] := hD
      have eS : upd (ff12) (Int32.toNatClampNeg (nI (σ.buf.length + 12))) (vp_nar .byte (x_68)) = upd ff12 (σ.buf.length + 12) (nbb (a4 >>> (24 &&& 31))) := by rw [nI_clamp (by omega), ← ex_68]; exact congrArg (upd ff12 (σ.buf.length + 12)) (pk_vb _)
      rw [eS] at hP hD
      have ht13 := tx_push ht12 (nbb_B (a4 >>> (24 &&& 31)))
      clear eS
      generalize upd ff12 (σ.buf.length + 12) (nbb (a4 >>> (24 &&& 31))) = ff13 at hP hD ht13
      refine lv_aload_n hx hb d_O_feed_104 rfl (lv_at hl 2 rfl) ?_
      refine lv_dup hx hb d_O_feed_105 rfl ?_
      refine va_get (D := (dC, dI)) (ci := 7) (v := .int (nI (σ.buf.length + 12))) (C := R_O) (T := F_O) (N := 27) hx hb hw0 in_O hown hK hP 13 rfl rfl 4 (by decide) (hw0 (.fieldLink R_O 69 "TextKeeperModel" "size" "I") wm_245) (fun _ h9 => h9) rfl d_O_feed_106 ?_
      refine lv_iconst (v := 1) hx hb d_O_feed_109 (by decide) ?_
      refine lv_iadd hx hb d_O_feed_110 ?_
      refine lv_topi (fun x_69 ex_69 => ?_)
      obtain rfl : x_69 = (nI (σ.buf.length + 13)) := by rw [ex_69]; exact nI_1 _
      clear ex_69
      refine va_put (D := (dC, dI)) (ci := 7) (v := .int (nI (σ.buf.length + 13))) (ty := .int) (C := R_O) (T := F_O) (N := 27) hx hb hw0 in_O ft_O tk_O nk_O hown hK hP hD hS 13 rfl rfl 4 (by decide) (hw0 (.fieldLink R_O 69 "TextKeeperModel" "size" "I") wm_245) (fun _ h9 => h9) rfl (by decide +kernel) rfl rfl (Nat.le_of_ble_eq_true rfl) d_O_feed_111 (fun H locs hP hD hS => ?_)
      replace hP : va_P (dC, dI) vwCl [(hbu, .inl (cB, 256, .inl (ff13))), (hgo, .inl (cZ, 8, .inl (fg))), (hfi, .inl (cI, 8, .inl (ff))), (hma, .inl (cI, 8, .inl (fm))), (hln, .inl (cL, 512, .inl (fl))), (hau, .inl (cI, 512, .inl (fa))), (hsu, .inl (cI, 512, .inl (fs))), (hrow, .inl (cB, 16384, .inl (fr))), (hmade, .inl (cB, 256, .inl (f))), (hbase, .inl (cB, 256, .inl (fb))), (htx9, .inl (cB, 256, .inl (ft))), (hot, .inl (cB, 256, .inl (fo))), (hpc, .inl (cB, 600, .inl (fp))), (h0, .inr (7, [.int 0, .int 0, .int (vI σ.go), .ref hbu, .int (nI (σ.buf.length + 13)), .int (nI σ.nd), .ref hgo, .ref hfi, .ref hma, .ref hln, .ref hau, .ref hsu, .ref hrow, .ref hmade, .int z_madeSize, .ref hbase, .int z_baseSize, .ref htx9, .int z_textSize, .int σ.stp, .ref hot, .int z_otherSize, .ref hpc, .int z_pieceSize, .int z_at, .int z_end, .int z_value]))] H := hP
      replace hD : va_D A [(hbu, .inl (cB, 256, .inl (ff13))), (hgo, .inl (cZ, 8, .inl (fg))), (hfi, .inl (cI, 8, .inl (ff))), (hma, .inl (cI, 8, .inl (fm))), (hln, .inl (cL, 512, .inl (fl))), (hau, .inl (cI, 512, .inl (fa))), (hsu, .inl (cI, 512, .inl (fs))), (hrow, .inl (cB, 16384, .inl (fr))), (hmade, .inl (cB, 256, .inl (f))), (hbase, .inl (cB, 256, .inl (fb))), (htx9, .inl (cB, 256, .inl (ft))), (hot, .inl (cB, 256, .inl (fo))), (hpc, .inl (cB, 600, .inl (fp))), (h0, .inr (7, [.int 0, .int 0, .int (vI σ.go), .ref hbu, .int (nI (σ.buf.length + 13)), .int (nI σ.nd), .ref hgo, .ref hfi, .ref hma, .ref hln, .ref hau, .ref hsu, .ref hrow, .ref hmade, .int z_madeSize, .ref hbase, .int z_baseSize, .ref htx9, .int z_textSize, .int σ.stp, .ref hot, .int z_otherSize, .ref hpc, .int z_pieceSize, .int z_at, .int z_end, .int z_value]))] := hD
      refine lv_iinc (v := 13) (lv' := [(6, .int 13), (7, .int a4), (0, .ref h0), (1, .int a1), (2, .int a2), (3, .int a3), (4, .int a4), (5, .int a5)]) hx hb d_O_feed_114 hl (k := 1) rfl (by decide +kernel) (by decide) rfl (fun ls hl => ?_)
      refine lv_goto (tgt := 26) hx hb d_O_feed_117 (by decide) ?_
      refine lv_iload hx hb d_O_feed_26 (lv_at hl 0 rfl) ?_
      refine lv_bipush (v := 20) hx hb d_O_feed_28 (by decide +kernel) ?_
      refine lv_icmp_ge (tgt := 120) hx hb d_O_feed_30 (by decide) (fun h9 => absurd h9 (by decide +kernel)) (fun _ => ?_)
      refine lv_iload hx hb d_O_feed_33 (lv_at hl 0 rfl) ?_
      refine lv_iconst (v := 4) hx hb d_O_feed_35 (by decide) ?_
      refine lv_icmp_ge (tgt := 43) hx hb d_O_feed_36 (by decide) (fun _ => ?_) (fun h9 => absurd h9 (by decide +kernel))
      refine lv_iload hx hb d_O_feed_43 (lv_at hl 0 rfl) ?_
      refine lv_bipush (v := 8) hx hb d_O_feed_45 (by decide +kernel) ?_
      refine lv_icmp_ge (tgt := 54) hx hb d_O_feed_47 (by decide) (fun _ => ?_) (fun h9 => absurd h9 (by decide +kernel))
      refine lv_iload hx hb d_O_feed_54 (lv_at hl 0 rfl) ?_
      refine lv_bipush (v := 12) hx hb d_O_feed_56 (by decide +kernel) ?_
      refine lv_icmp_ge (tgt := 65) hx hb d_O_feed_58 (by decide) (fun _ => ?_) (fun h9 => absurd h9 (by decide +kernel))
      refine lv_iload hx hb d_O_feed_65 (lv_at hl 0 rfl) ?_
      refine lv_bipush (v := 16) hx hb d_O_feed_67 (by decide +kernel) ?_
      refine lv_icmp_ge (tgt := 77) hx hb d_O_feed_69 (by decide) (fun h9 => absurd h9 (by decide +kernel)) (fun _ => ?_)
      refine lv_iload hx hb d_O_feed_72 (lv_at hl 6 rfl) ?_
      refine lv_goto (tgt := 79) hx hb d_O_feed_74 (by decide) ?_
      refine lv_istore (lv' := [(7, .int a4), (6, .int 13), (0, .ref h0), (1, .int a1), (2, .int a2), (3, .int a3), (4, .int a4), (5, .int a5)]) hx hb d_O_feed_79 hl (by decide) rfl (fun ls hl => ?_)
      refine lv_aload_n hx hb d_O_feed_81 rfl (lv_at hl 2 rfl) ?_
      refine va_get (D := (dC, dI)) (ci := 7) (v := .ref hbu) (C := R_O) (T := F_O) (N := 27) hx hb hw0 in_O hown hK hP 13 rfl rfl 3 (by decide) (hw0 (.fieldLink R_O 13 "TextKeeperModel" "buffer" "[B") wm_247) (fun _ h9 => h9) rfl d_O_feed_82 ?_
      refine lv_aload_n hx hb d_O_feed_85 rfl (lv_at hl 2 rfl) ?_
      refine va_get (D := (dC, dI)) (ci := 7) (v := .int (nI (σ.buf.length + 13))) (C := R_O) (T := F_O) (N := 27) hx hb hw0 in_O hown hK hP 13 rfl rfl 4 (by decide) (hw0 (.fieldLink R_O 69 "TextKeeperModel" "size" "I") wm_245) (fun _ h9 => h9) rfl d_O_feed_86 ?_
      refine lv_iload hx hb d_O_feed_89 (lv_at hl 0 rfl) ?_
      refine lv_bipush (v := 24) hx hb d_O_feed_91 (by decide +kernel) ?_
      refine lv_bipush (v := 8) hx hb d_O_feed_93 (by decide +kernel) ?_
      refine lv_iload hx hb d_O_feed_95 (lv_at hl 1 rfl) ?_
      refine lv_iconst (v := 4) hx hb d_O_feed_97 (by decide) ?_
      refine lv_irem hx hb d_O_feed_98 (by decide +kernel) ?_
      refine lv_topi (fun x_70 ex_70 => ?_)
      obtain rfl : x_70 = 1 := ex_70.trans (by decide +kernel)
      clear ex_70
      refine lv_imul hx hb d_O_feed_99 ?_
      refine lv_topi (fun x_71 ex_71 => ?_)
      obtain rfl : x_71 = 8 := ex_71.trans (by decide +kernel)
      clear ex_71
      refine lv_isub hx hb d_O_feed_100 ?_
      refine lv_topi (fun x_72 ex_72 => ?_)
      obtain rfl : x_72 = 16 := ex_72.trans (by decide +kernel)
      clear ex_72
      refine lv_ishr hx hb d_O_feed_101 ?_
      obtain ⟨x_73, ex_73⟩ : ∃ y : Int32, (a4 >>> (16 &&& 31)).toInt8.toInt32 = y := ⟨_, rfl⟩
      refine lv_i2b (v := x_73) hx hb d_O_feed_102 ex_73 ?_
      refine va_bast hx hb hK hP hD hS 0 0 rfl rfl (vp_in_nI (by omega) (by decide)) d_O_feed_103 (fun H locs hP hD hS => ?_)
      replace hP : va_P (dC, dI) vwCl [(hbu, .inl (cB, 256, .inl (upd (ff13) (Int32.toNatClampNeg (nI (σ.buf.length + 13))) (vp_nar .byte (x_73))))), (hgo, .inl (cZ, 8, .inl (fg))), (hfi, .inl (cI, 8, .inl (ff))), (hma, .inl (cI, 8, .inl (fm))), (hln, .inl (cL, 512, .inl (fl))), (hau, .inl (cI, 512, .inl (fa))), (hsu, .inl (cI, 512, .inl (fs))), (hrow, .inl (cB, 16384, .inl (fr))), (hmade, .inl (cB, 256, .inl (f))), (hbase, .inl (cB, 256, .inl (fb))), (htx9, .inl (cB, 256, .inl (ft))), (hot, .inl (cB, 256, .inl (fo))), (hpc, .inl (cB, 600, .inl (fp))), (h0, .inr (7, [.int 0, .int 0, .int (vI σ.go), .ref hbu, .int (nI (σ.buf.length + 13)), .int (nI σ.nd), .ref hgo, .ref hfi, .ref hma, .ref hln, .ref hau, .ref hsu, .ref hrow, .ref hmade, .int z_madeSize, .ref hbase, .int z_baseSize, .ref htx9, .int z_textSize, .int σ.stp, .ref hot, .int z_otherSize, .ref hpc, .int z_pieceSize, .int z_at, .int z_end, .int z_value]))] H := hP
      replace hD : va_D A [(hbu, .inl (cB, 256, .inl (upd (ff13) (Int32.toNatClampNeg (nI (σ.buf.length + 13))) (vp_nar .byte (x_73))))), (hgo, .inl (cZ, 8, .inl (fg))), (hfi, .inl (cI, 8, .inl (ff))), (hma, .inl (cI, 8, .inl (fm))), (hln, .inl (cL, 512, .inl (fl))), (hau, .inl (cI, 512, .inl (fa))), (hsu, .inl (cI, 512, .inl (fs))), (hrow, .inl (cB, 16384, .inl (fr))), (hmade, .inl (cB, 256, .inl (f))), (hbase, .inl (cB, 256, .inl (fb))), (htx9, .inl (cB, 256, .inl (ft))), (hot, .inl (cB, 256, .inl (fo))), (hpc, .inl (cB, 600, .inl (fp))), (h0, .inr (7, [.int 0, .int 0, .int (vI σ.go), .ref hbu, .int (nI (σ.buf.length + 13)), .int (nI σ.nd), .ref hgo, .ref hfi, .ref hma, .ref hln, .ref hau, .ref hsu, .ref hrow, .ref hmade, .int z_madeSize, .ref hbase, .int z_baseSize, .ref htx9, .int z_textSize, .int σ.stp, .ref hot, .int z_otherSize, .ref hpc, .int z_pieceSize, .int z_at, .int z_end, .int z_value]))] := hD
      have eS : upd (ff13) (Int32.toNatClampNeg (nI (σ.buf.length + 13))) (vp_nar .byte (x_73)) = upd ff13 (σ.buf.length + 13) (nbb (a4 >>> (16 &&& 31))) := by rw [nI_clamp (by omega), ← ex_73]; exact congrArg (upd ff13 (σ.buf.length + 13)) (pk_vb _)
      rw [eS] at hP hD
      have ht14 := tx_push ht13 (nbb_B (a4 >>> (16 &&& 31)))
      clear eS
      generalize upd ff13 (σ.buf.length + 13) (nbb (a4 >>> (16 &&& 31))) = ff14 at hP hD ht14
      refine lv_aload_n hx hb d_O_feed_104 rfl (lv_at hl 2 rfl) ?_
      refine lv_dup hx hb d_O_feed_105 rfl ?_
      refine va_get (D := (dC, dI)) (ci := 7) (v := .int (nI (σ.buf.length + 13))) (C := R_O) (T := F_O) (N := 27) hx hb hw0 in_O hown hK hP 13 rfl rfl 4 (by decide) (hw0 (.fieldLink R_O 69 "TextKeeperModel" "size" "I") wm_245) (fun _ h9 => h9) rfl d_O_feed_106 ?_
      refine lv_iconst (v := 1) hx hb d_O_feed_109 (by decide) ?_
      refine lv_iadd hx hb d_O_feed_110 ?_
      refine lv_topi (fun x_74 ex_74 => ?_)
      obtain rfl : x_74 = (nI (σ.buf.length + 14)) := by rw [ex_74]; exact nI_1 _
      clear ex_74
      refine va_put (D := (dC, dI)) (ci := 7) (v := .int (nI (σ.buf.length + 14))) (ty := .int) (C := R_O) (T := F_O) (N := 27) hx hb hw0 in_O ft_O tk_O nk_O hown hK hP hD hS 13 rfl rfl 4 (by decide) (hw0 (.fieldLink R_O 69 "TextKeeperModel" "size" "I") wm_245) (fun _ h9 => h9) rfl (by decide +kernel) rfl rfl (Nat.le_of_ble_eq_true rfl) d_O_feed_111 (fun H locs hP hD hS => ?_)
      replace hP : va_P (dC, dI) vwCl [(hbu, .inl (cB, 256, .inl (ff14))), (hgo, .inl (cZ, 8, .inl (fg))), (hfi, .inl (cI, 8, .inl (ff))), (hma, .inl (cI, 8, .inl (fm))), (hln, .inl (cL, 512, .inl (fl))), (hau, .inl (cI, 512, .inl (fa))), (hsu, .inl (cI, 512, .inl (fs))), (hrow, .inl (cB, 16384, .inl (fr))), (hmade, .inl (cB, 256, .inl (f))), (hbase, .inl (cB, 256, .inl (fb))), (htx9, .inl (cB, 256, .inl (ft))), (hot, .inl (cB, 256, .inl (fo))), (hpc, .inl (cB, 600, .inl (fp))), (h0, .inr (7, [.int 0, .int 0, .int (vI σ.go), .ref hbu, .int (nI (σ.buf.length + 14)), .int (nI σ.nd), .ref hgo, .ref hfi, .ref hma, .ref hln, .ref hau, .ref hsu, .ref hrow, .ref hmade, .int z_madeSize, .ref hbase, .int z_baseSize, .ref htx9, .int z_textSize, .int σ.stp, .ref hot, .int z_otherSize, .ref hpc, .int z_pieceSize, .int z_at, .int z_end, .int z_value]))] H := hP
      replace hD : va_D A [(hbu, .inl (cB, 256, .inl (ff14))), (hgo, .inl (cZ, 8, .inl (fg))), (hfi, .inl (cI, 8, .inl (ff))), (hma, .inl (cI, 8, .inl (fm))), (hln, .inl (cL, 512, .inl (fl))), (hau, .inl (cI, 512, .inl (fa))), (hsu, .inl (cI, 512, .inl (fs))), (hrow, .inl (cB, 16384, .inl (fr))), (hmade, .inl (cB, 256, .inl (f))), (hbase, .inl (cB, 256, .inl (fb))), (htx9, .inl (cB, 256, .inl (ft))), (hot, .inl (cB, 256, .inl (fo))), (hpc, .inl (cB, 600, .inl (fp))), (h0, .inr (7, [.int 0, .int 0, .int (vI σ.go), .ref hbu, .int (nI (σ.buf.length + 14)), .int (nI σ.nd), .ref hgo, .ref hfi, .ref hma, .ref hln, .ref hau, .ref hsu, .ref hrow, .ref hmade, .int z_madeSize, .ref hbase, .int z_baseSize, .ref htx9, .int z_textSize, .int σ.stp, .ref hot, .int z_otherSize, .ref hpc, .int z_pieceSize, .int z_at, .int z_end, .int z_value]))] := hD
      refine lv_iinc (v := 14) (lv' := [(6, .int 14), (7, .int a4), (0, .ref h0), (1, .int a1), (2, .int a2), (3, .int a3), (4, .int a4), (5, .int a5)]) hx hb d_O_feed_114 hl (k := 1) rfl (by decide +kernel) (by decide) rfl (fun ls hl => ?_)
      refine lv_goto (tgt := 26) hx hb d_O_feed_117 (by decide) ?_
      refine lv_iload hx hb d_O_feed_26 (lv_at hl 0 rfl) ?_
      refine lv_bipush (v := 20) hx hb d_O_feed_28 (by decide +kernel) ?_
      refine lv_icmp_ge (tgt := 120) hx hb d_O_feed_30 (by decide) (fun h9 => absurd h9 (by decide +kernel)) (fun _ => ?_)
      refine lv_iload hx hb d_O_feed_33 (lv_at hl 0 rfl) ?_
      refine lv_iconst (v := 4) hx hb d_O_feed_35 (by decide) ?_
      refine lv_icmp_ge (tgt := 43) hx hb d_O_feed_36 (by decide) (fun _ => ?_) (fun h9 => absurd h9 (by decide +kernel))
      refine lv_iload hx hb d_O_feed_43 (lv_at hl 0 rfl) ?_
      refine lv_bipush (v := 8) hx hb d_O_feed_45 (by decide +kernel) ?_
      refine lv_icmp_ge (tgt := 54) hx hb d_O_feed_47 (by decide) (fun _ => ?_) (fun h9 => absurd h9 (by decide +kernel))
      refine lv_iload hx hb d_O_feed_54 (lv_at hl 0 rfl) ?_
      refine lv_bipush (v := 12) hx hb d_O_feed_56 (by decide +kernel) ?_
      refine lv_icmp_ge (tgt := 65) hx hb d_O_feed_58 (by decide) (fun _ => ?_) (fun h9 => absurd h9 (by decide +kernel))
      refine lv_iload hx hb d_O_feed_65 (lv_at hl 0 rfl) ?_
      refine lv_bipush (v := 16) hx hb d_O_feed_67 (by decide +kernel) ?_
      refine lv_icmp_ge (tgt := 77) hx hb d_O_feed_69 (by decide) (fun h9 => absurd h9 (by decide +kernel)) (fun _ => ?_)
      refine lv_iload hx hb d_O_feed_72 (lv_at hl 6 rfl) ?_
      refine lv_goto (tgt := 79) hx hb d_O_feed_74 (by decide) ?_
      refine lv_istore (lv' := [(7, .int a4), (6, .int 14), (0, .ref h0), (1, .int a1), (2, .int a2), (3, .int a3), (4, .int a4), (5, .int a5)]) hx hb d_O_feed_79 hl (by decide) rfl (fun ls hl => ?_)
      refine lv_aload_n hx hb d_O_feed_81 rfl (lv_at hl 2 rfl) ?_
      refine va_get (D := (dC, dI)) (ci := 7) (v := .ref hbu) (C := R_O) (T := F_O) (N := 27) hx hb hw0 in_O hown hK hP 13 rfl rfl 3 (by decide) (hw0 (.fieldLink R_O 13 "TextKeeperModel" "buffer" "[B") wm_247) (fun _ h9 => h9) rfl d_O_feed_82 ?_
      refine lv_aload_n hx hb d_O_feed_85 rfl (lv_at hl 2 rfl) ?_
      refine va_get (D := (dC, dI)) (ci := 7) (v := .int (nI (σ.buf.length + 14))) (C := R_O) (T := F_O) (N := 27) hx hb hw0 in_O hown hK hP 13 rfl rfl 4 (by decide) (hw0 (.fieldLink R_O 69 "TextKeeperModel" "size" "I") wm_245) (fun _ h9 => h9) rfl d_O_feed_86 ?_
      refine lv_iload hx hb d_O_feed_89 (lv_at hl 0 rfl) ?_
      refine lv_bipush (v := 24) hx hb d_O_feed_91 (by decide +kernel) ?_
      refine lv_bipush (v := 8) hx hb d_O_feed_93 (by decide +kernel) ?_
      refine lv_iload hx hb d_O_feed_95 (lv_at hl 1 rfl) ?_
      refine lv_iconst (v := 4) hx hb d_O_feed_97 (by decide) ?_
      refine lv_irem hx hb d_O_feed_98 (by decide +kernel) ?_
      refine lv_topi (fun x_75 ex_75 => ?_)
      obtain rfl : x_75 = 2 := ex_75.trans (by decide +kernel)
      clear ex_75
      refine lv_imul hx hb d_O_feed_99 ?_
      refine lv_topi (fun x_76 ex_76 => ?_)
      obtain rfl : x_76 = 16 := ex_76.trans (by decide +kernel)
      clear ex_76
      refine lv_isub hx hb d_O_feed_100 ?_
      refine lv_topi (fun x_77 ex_77 => ?_)
      obtain rfl : x_77 = 8 := ex_77.trans (by decide +kernel)
      clear ex_77
      refine lv_ishr hx hb d_O_feed_101 ?_
      obtain ⟨x_78, ex_78⟩ : ∃ y : Int32, (a4 >>> (8 &&& 31)).toInt8.toInt32 = y := ⟨_, rfl⟩
      refine lv_i2b (v := x_78) hx hb d_O_feed_102 ex_78 ?_
      refine va_bast hx hb hK hP hD hS 0 0 rfl rfl (vp_in_nI (by omega) (by decide)) d_O_feed_103 (fun H locs hP hD hS => ?_)
      replace hP : va_P (dC, dI) vwCl [(hbu, .inl (cB, 256, .inl (upd (ff14) (Int32.toNatClampNeg (nI (σ.buf.length + 14))) (vp_nar .byte (x_78))))), (hgo, .inl (cZ, 8, .inl (fg))), (hfi, .inl (cI, 8, .inl (ff))), (hma, .inl (cI, 8, .inl (fm))), (hln, .inl (cL, 512, .inl (fl))), (hau, .inl (cI, 512, .inl (fa))), (hsu, .inl (cI, 512, .inl (fs))), (hrow, .inl (cB, 16384, .inl (fr))), (hmade, .inl (cB, 256, .inl (f))), (hbase, .inl (cB, 256, .inl (fb))), (htx9, .inl (cB, 256, .inl (ft))), (hot, .inl (cB, 256, .inl (fo))), (hpc, .inl (cB, 600, .inl (fp))), (h0, .inr (7, [.int 0, .int 0, .int (vI σ.go), .ref hbu, .int (nI (σ.buf.length + 14)), .int (nI σ.nd), .ref hgo, .ref hfi, .ref hma, .ref hln, .ref hau, .ref hsu, .ref hrow, .ref hmade, .int z_madeSize, .ref hbase, .int z_baseSize, .ref htx9, .int z_textSize, .int σ.stp, .ref hot, .int z_otherSize, .ref hpc, .int z_pieceSize, .int z_at, .int z_end, .int z_value]))] H := hP
      replace hD : va_D A [(hbu, .inl (cB, 256, .inl (upd (ff14) (Int32.toNatClampNeg (nI (σ.buf.length + 14))) (vp_nar .byte (x_78))))), (hgo, .inl (cZ, 8, .inl (fg))), (hfi, .inl (cI, 8, .inl (ff))), (hma, .inl (cI, 8, .inl (fm))), (hln, .inl (cL, 512, .inl (fl))), (hau, .inl (cI, 512, .inl (fa))), (hsu, .inl (cI, 512, .inl (fs))), (hrow, .inl (cB, 16384, .inl (fr))), (hmade, .inl (cB, 256, .inl (f))), (hbase, .inl (cB, 256, .inl (fb))), (htx9, .inl (cB, 256, .inl (ft))), (hot, .inl (cB, 256, .inl (fo))), (hpc, .inl (cB, 600, .inl (fp))), (h0, .inr (7, [.int 0, .int 0, .int (vI σ.go), .ref hbu, .int (nI (σ.buf.length + 14)), .int (nI σ.nd), .ref hgo, .ref hfi, .ref hma, .ref hln, .ref hau, .ref hsu, .ref hrow, .ref hmade, .int z_madeSize, .ref hbase, .int z_baseSize, .ref htx9, .int z_textSize, .int σ.stp, .ref hot, .int z_otherSize, .ref hpc, .int z_pieceSize, .int z_at, .int z_end, .int z_value]))] := hD
      have eS : upd (ff14) (Int32.toNatClampNeg (nI (σ.buf.length + 14))) (vp_nar .byte (x_78)) = upd ff14 (σ.buf.length + 14) (nbb (a4 >>> (8 &&& 31))) := by rw [nI_clamp (by omega), ← ex_78]; exact congrArg (upd ff14 (σ.buf.length + 14)) (pk_vb _)
      rw [eS] at hP hD
      have ht15 := tx_push ht14 (nbb_B (a4 >>> (8 &&& 31)))
      clear eS
      generalize upd ff14 (σ.buf.length + 14) (nbb (a4 >>> (8 &&& 31))) = ff15 at hP hD ht15
      refine lv_aload_n hx hb d_O_feed_104 rfl (lv_at hl 2 rfl) ?_
      refine lv_dup hx hb d_O_feed_105 rfl ?_
      refine va_get (D := (dC, dI)) (ci := 7) (v := .int (nI (σ.buf.length + 14))) (C := R_O) (T := F_O) (N := 27) hx hb hw0 in_O hown hK hP 13 rfl rfl 4 (by decide) (hw0 (.fieldLink R_O 69 "TextKeeperModel" "size" "I") wm_245) (fun _ h9 => h9) rfl d_O_feed_106 ?_
      refine lv_iconst (v := 1) hx hb d_O_feed_109 (by decide) ?_
      refine lv_iadd hx hb d_O_feed_110 ?_
      refine lv_topi (fun x_79 ex_79 => ?_)
      obtain rfl : x_79 = (nI (σ.buf.length + 15)) := by rw [ex_79]; exact nI_1 _
      clear ex_79
      refine va_put (D := (dC, dI)) (ci := 7) (v := .int (nI (σ.buf.length + 15))) (ty := .int) (C := R_O) (T := F_O) (N := 27) hx hb hw0 in_O ft_O tk_O nk_O hown hK hP hD hS 13 rfl rfl 4 (by decide) (hw0 (.fieldLink R_O 69 "TextKeeperModel" "size" "I") wm_245) (fun _ h9 => h9) rfl (by decide +kernel) rfl rfl (Nat.le_of_ble_eq_true rfl) d_O_feed_111 (fun H locs hP hD hS => ?_)
      replace hP : va_P (dC, dI) vwCl [(hbu, .inl (cB, 256, .inl (ff15))), (hgo, .inl (cZ, 8, .inl (fg))), (hfi, .inl (cI, 8, .inl (ff))), (hma, .inl (cI, 8, .inl (fm))), (hln, .inl (cL, 512, .inl (fl))), (hau, .inl (cI, 512, .inl (fa))), (hsu, .inl (cI, 512, .inl (fs))), (hrow, .inl (cB, 16384, .inl (fr))), (hmade, .inl (cB, 256, .inl (f))), (hbase, .inl (cB, 256, .inl (fb))), (htx9, .inl (cB, 256, .inl (ft))), (hot, .inl (cB, 256, .inl (fo))), (hpc, .inl (cB, 600, .inl (fp))), (h0, .inr (7, [.int 0, .int 0, .int (vI σ.go), .ref hbu, .int (nI (σ.buf.length + 15)), .int (nI σ.nd), .ref hgo, .ref hfi, .ref hma, .ref hln, .ref hau, .ref hsu, .ref hrow, .ref hmade, .int z_madeSize, .ref hbase, .int z_baseSize, .ref htx9, .int z_textSize, .int σ.stp, .ref hot, .int z_otherSize, .ref hpc, .int z_pieceSize, .int z_at, .int z_end, .int z_value]))] H := hP
      replace hD : va_D A [(hbu, .inl (cB, 256, .inl (ff15))), (hgo, .inl (cZ, 8, .inl (fg))), (hfi, .inl (cI, 8, .inl (ff))), (hma, .inl (cI, 8, .inl (fm))), (hln, .inl (cL, 512, .inl (fl))), (hau, .inl (cI, 512, .inl (fa))), (hsu, .inl (cI, 512, .inl (fs))), (hrow, .inl (cB, 16384, .inl (fr))), (hmade, .inl (cB, 256, .inl (f))), (hbase, .inl (cB, 256, .inl (fb))), (htx9, .inl (cB, 256, .inl (ft))), (hot, .inl (cB, 256, .inl (fo))), (hpc, .inl (cB, 600, .inl (fp))), (h0, .inr (7, [.int 0, .int 0, .int (vI σ.go), .ref hbu, .int (nI (σ.buf.length + 15)), .int (nI σ.nd), .ref hgo, .ref hfi, .ref hma, .ref hln, .ref hau, .ref hsu, .ref hrow, .ref hmade, .int z_madeSize, .ref hbase, .int z_baseSize, .ref htx9, .int z_textSize, .int σ.stp, .ref hot, .int z_otherSize, .ref hpc, .int z_pieceSize, .int z_at, .int z_end, .int z_value]))] := hD
      refine lv_iinc (v := 15) (lv' := [(6, .int 15), (7, .int a4), (0, .ref h0), (1, .int a1), (2, .int a2), (3, .int a3), (4, .int a4), (5, .int a5)]) hx hb d_O_feed_114 hl (k := 1) rfl (by decide +kernel) (by decide) rfl (fun ls hl => ?_)
      refine lv_goto (tgt := 26) hx hb d_O_feed_117 (by decide) ?_
      refine lv_iload hx hb d_O_feed_26 (lv_at hl 0 rfl) ?_
      refine lv_bipush (v := 20) hx hb d_O_feed_28 (by decide +kernel) ?_
      refine lv_icmp_ge (tgt := 120) hx hb d_O_feed_30 (by decide) (fun h9 => absurd h9 (by decide +kernel)) (fun _ => ?_)
      refine lv_iload hx hb d_O_feed_33 (lv_at hl 0 rfl) ?_
      refine lv_iconst (v := 4) hx hb d_O_feed_35 (by decide) ?_
      refine lv_icmp_ge (tgt := 43) hx hb d_O_feed_36 (by decide) (fun _ => ?_) (fun h9 => absurd h9 (by decide +kernel))
      refine lv_iload hx hb d_O_feed_43 (lv_at hl 0 rfl) ?_
      refine lv_bipush (v := 8) hx hb d_O_feed_45 (by decide +kernel) ?_
      refine lv_icmp_ge (tgt := 54) hx hb d_O_feed_47 (by decide) (fun _ => ?_) (fun h9 => absurd h9 (by decide +kernel))
      refine lv_iload hx hb d_O_feed_54 (lv_at hl 0 rfl) ?_
      refine lv_bipush (v := 12) hx hb d_O_feed_56 (by decide +kernel) ?_
      refine lv_icmp_ge (tgt := 65) hx hb d_O_feed_58 (by decide) (fun _ => ?_) (fun h9 => absurd h9 (by decide +kernel))
      refine lv_iload hx hb d_O_feed_65 (lv_at hl 0 rfl) ?_
      refine lv_bipush (v := 16) hx hb d_O_feed_67 (by decide +kernel) ?_
      refine lv_icmp_ge (tgt := 77) hx hb d_O_feed_69 (by decide) (fun h9 => absurd h9 (by decide +kernel)) (fun _ => ?_)
      refine lv_iload hx hb d_O_feed_72 (lv_at hl 6 rfl) ?_
      refine lv_goto (tgt := 79) hx hb d_O_feed_74 (by decide) ?_
      refine lv_istore (lv' := [(7, .int a4), (6, .int 15), (0, .ref h0), (1, .int a1), (2, .int a2), (3, .int a3), (4, .int a4), (5, .int a5)]) hx hb d_O_feed_79 hl (by decide) rfl (fun ls hl => ?_)
      refine lv_aload_n hx hb d_O_feed_81 rfl (lv_at hl 2 rfl) ?_
      refine va_get (D := (dC, dI)) (ci := 7) (v := .ref hbu) (C := R_O) (T := F_O) (N := 27) hx hb hw0 in_O hown hK hP 13 rfl rfl 3 (by decide) (hw0 (.fieldLink R_O 13 "TextKeeperModel" "buffer" "[B") wm_247) (fun _ h9 => h9) rfl d_O_feed_82 ?_
      refine lv_aload_n hx hb d_O_feed_85 rfl (lv_at hl 2 rfl) ?_
      refine va_get (D := (dC, dI)) (ci := 7) (v := .int (nI (σ.buf.length + 15))) (C := R_O) (T := F_O) (N := 27) hx hb hw0 in_O hown hK hP 13 rfl rfl 4 (by decide) (hw0 (.fieldLink R_O 69 "TextKeeperModel" "size" "I") wm_245) (fun _ h9 => h9) rfl d_O_feed_86 ?_
      refine lv_iload hx hb d_O_feed_89 (lv_at hl 0 rfl) ?_
      refine lv_bipush (v := 24) hx hb d_O_feed_91 (by decide +kernel) ?_
      refine lv_bipush (v := 8) hx hb d_O_feed_93 (by decide +kernel) ?_
      refine lv_iload hx hb d_O_feed_95 (lv_at hl 1 rfl) ?_
      refine lv_iconst (v := 4) hx hb d_O_feed_97 (by decide) ?_
      refine lv_irem hx hb d_O_feed_98 (by decide +kernel) ?_
      refine lv_topi (fun x_80 ex_80 => ?_)
      obtain rfl : x_80 = 3 := ex_80.trans (by decide +kernel)
      clear ex_80
      refine lv_imul hx hb d_O_feed_99 ?_
      refine lv_topi (fun x_81 ex_81 => ?_)
      obtain rfl : x_81 = 24 := ex_81.trans (by decide +kernel)
      clear ex_81
      refine lv_isub hx hb d_O_feed_100 ?_
      refine lv_topi (fun x_82 ex_82 => ?_)
      obtain rfl : x_82 = 0 := ex_82.trans (by decide +kernel)
      clear ex_82
      refine lv_ishr hx hb d_O_feed_101 ?_
      obtain ⟨x_83, ex_83⟩ : ∃ y : Int32, (a4 >>> (0 &&& 31)).toInt8.toInt32 = y := ⟨_, rfl⟩
      refine lv_i2b (v := x_83) hx hb d_O_feed_102 ex_83 ?_
      refine va_bast hx hb hK hP hD hS 0 0 rfl rfl (vp_in_nI (by omega) (by decide)) d_O_feed_103 (fun H locs hP hD hS => ?_)
      replace hP : va_P (dC, dI) vwCl [(hbu, .inl (cB, 256, .inl (upd (ff15) (Int32.toNatClampNeg (nI (σ.buf.length + 15))) (vp_nar .byte (x_83))))), (hgo, .inl (cZ, 8, .inl (fg))), (hfi, .inl (cI, 8, .inl (ff))), (hma, .inl (cI, 8, .inl (fm))), (hln, .inl (cL, 512, .inl (fl))), (hau, .inl (cI, 512, .inl (fa))), (hsu, .inl (cI, 512, .inl (fs))), (hrow, .inl (cB, 16384, .inl (fr))), (hmade, .inl (cB, 256, .inl (f))), (hbase, .inl (cB, 256, .inl (fb))), (htx9, .inl (cB, 256, .inl (ft))), (hot, .inl (cB, 256, .inl (fo))), (hpc, .inl (cB, 600, .inl (fp))), (h0, .inr (7, [.int 0, .int 0, .int (vI σ.go), .ref hbu, .int (nI (σ.buf.length + 15)), .int (nI σ.nd), .ref hgo, .ref hfi, .ref hma, .ref hln, .ref hau, .ref hsu, .ref hrow, .ref hmade, .int z_madeSize, .ref hbase, .int z_baseSize, .ref htx9, .int z_textSize, .int σ.stp, .ref hot, .int z_otherSize, .ref hpc, .int z_pieceSize, .int z_at, .int z_end, .int z_value]))] H := hP
      replace hD : va_D A [(hbu, .inl (cB, 256, .inl (upd (ff15) (Int32.toNatClampNeg (nI (σ.buf.length + 15))) (vp_nar .byte (x_83))))), (hgo, .inl (cZ, 8, .inl (fg))), (hfi, .inl (cI, 8, .inl (ff))), (hma, .inl (cI, 8, .inl (fm))), (hln, .inl (cL, 512, .inl (fl))), (hau, .inl (cI, 512, .inl (fa))), (hsu, .inl (cI, 512, .inl (fs))), (hrow, .inl (cB, 16384, .inl (fr))), (hmade, .inl (cB, 256, .inl (f))), (hbase, .inl (cB, 256, .inl (fb))), (htx9, .inl (cB, 256, .inl (ft))), (hot, .inl (cB, 256, .inl (fo))), (hpc, .inl (cB, 600, .inl (fp))), (h0, .inr (7, [.int 0, .int 0, .int (vI σ.go), .ref hbu, .int (nI (σ.buf.length + 15)), .int (nI σ.nd), .ref hgo, .ref hfi, .ref hma, .ref hln, .ref hau, .ref hsu, .ref hrow, .ref hmade, .int z_madeSize, .ref hbase, .int z_baseSize, .ref htx9, .int z_textSize, .int σ.stp, .ref hot, .int z_otherSize, .ref hpc, .int z_pieceSize, .int z_at, .int z_end, .int z_value]))] := hD
      have eS : upd (ff15) (Int32.toNatClampNeg (nI (σ.buf.length + 15))) (vp_nar .byte (x_83)) = upd ff15 (σ.buf.length + 15) (nbb (a4 >>> (0 &&& 31))) := by rw [nI_clamp (by omega), ← ex_83]; exact congrArg (upd ff15 (σ.buf.length + 15)) (pk_vb _)
      rw [eS] at hP hD
      have ht16 := tx_push ht15 (nbb_B (a4 >>> (0 &&& 31)))
      clear eS
      generalize upd ff15 (σ.buf.length + 15) (nbb (a4 >>> (0 &&& 31))) = ff16 at hP hD ht16
      refine lv_aload_n hx hb d_O_feed_104 rfl (lv_at hl 2 rfl) ?_
      refine lv_dup hx hb d_O_feed_105 rfl ?_
      refine va_get (D := (dC, dI)) (ci := 7) (v := .int (nI (σ.buf.length + 15))) (C := R_O) (T := F_O) (N := 27) hx hb hw0 in_O hown hK hP 13 rfl rfl 4 (by decide) (hw0 (.fieldLink R_O 69 "TextKeeperModel" "size" "I") wm_245) (fun _ h9 => h9) rfl d_O_feed_106 ?_
      refine lv_iconst (v := 1) hx hb d_O_feed_109 (by decide) ?_
      refine lv_iadd hx hb d_O_feed_110 ?_
      refine lv_topi (fun x_84 ex_84 => ?_)
      obtain rfl : x_84 = (nI (σ.buf.length + 16)) := by rw [ex_84]; exact nI_1 _
      clear ex_84
      refine va_put (D := (dC, dI)) (ci := 7) (v := .int (nI (σ.buf.length + 16))) (ty := .int) (C := R_O) (T := F_O) (N := 27) hx hb hw0 in_O ft_O tk_O nk_O hown hK hP hD hS 13 rfl rfl 4 (by decide) (hw0 (.fieldLink R_O 69 "TextKeeperModel" "size" "I") wm_245) (fun _ h9 => h9) rfl (by decide +kernel) rfl rfl (Nat.le_of_ble_eq_true rfl) d_O_feed_111 (fun H locs hP hD hS => ?_)
      replace hP : va_P (dC, dI) vwCl [(hbu, .inl (cB, 256, .inl (ff16))), (hgo, .inl (cZ, 8, .inl (fg))), (hfi, .inl (cI, 8, .inl (ff))), (hma, .inl (cI, 8, .inl (fm))), (hln, .inl (cL, 512, .inl (fl))), (hau, .inl (cI, 512, .inl (fa))), (hsu, .inl (cI, 512, .inl (fs))), (hrow, .inl (cB, 16384, .inl (fr))), (hmade, .inl (cB, 256, .inl (f))), (hbase, .inl (cB, 256, .inl (fb))), (htx9, .inl (cB, 256, .inl (ft))), (hot, .inl (cB, 256, .inl (fo))), (hpc, .inl (cB, 600, .inl (fp))), (h0, .inr (7, [.int 0, .int 0, .int (vI σ.go), .ref hbu, .int (nI (σ.buf.length + 16)), .int (nI σ.nd), .ref hgo, .ref hfi, .ref hma, .ref hln, .ref hau, .ref hsu, .ref hrow, .ref hmade, .int z_madeSize, .ref hbase, .int z_baseSize, .ref htx9, .int z_textSize, .int σ.stp, .ref hot, .int z_otherSize, .ref hpc, .int z_pieceSize, .int z_at, .int z_end, .int z_value]))] H := hP
      replace hD : va_D A [(hbu, .inl (cB, 256, .inl (ff16))), (hgo, .inl (cZ, 8, .inl (fg))), (hfi, .inl (cI, 8, .inl (ff))), (hma, .inl (cI, 8, .inl (fm))), (hln, .inl (cL, 512, .inl (fl))), (hau, .inl (cI, 512, .inl (fa))), (hsu, .inl (cI, 512, .inl (fs))), (hrow, .inl (cB, 16384, .inl (fr))), (hmade, .inl (cB, 256, .inl (f))), (hbase, .inl (cB, 256, .inl (fb))), (htx9, .inl (cB, 256, .inl (ft))), (hot, .inl (cB, 256, .inl (fo))), (hpc, .inl (cB, 600, .inl (fp))), (h0, .inr (7, [.int 0, .int 0, .int (vI σ.go), .ref hbu, .int (nI (σ.buf.length + 16)), .int (nI σ.nd), .ref hgo, .ref hfi, .ref hma, .ref hln, .ref hau, .ref hsu, .ref hrow, .ref hmade, .int z_madeSize, .ref hbase, .int z_baseSize, .ref htx9, .int z_textSize, .int σ.stp, .ref hot, .int z_otherSize, .ref hpc, .int z_pieceSize, .int z_at, .int z_end, .int z_value]))] := hD
      refine lv_iinc (v := 16) (lv' := [(6, .int 16), (7, .int a4), (0, .ref h0), (1, .int a1), (2, .int a2), (3, .int a3), (4, .int a4), (5, .int a5)]) hx hb d_O_feed_114 hl (k := 1) rfl (by decide +kernel) (by decide) rfl (fun ls hl => ?_)
      refine lv_goto (tgt := 26) hx hb d_O_feed_117 (by decide) ?_
      refine lv_iload hx hb d_O_feed_26 (lv_at hl 0 rfl) ?_
      refine lv_bipush (v := 20) hx hb d_O_feed_28 (by decide +kernel) ?_
      refine lv_icmp_ge (tgt := 120) hx hb d_O_feed_30 (by decide) (fun h9 => absurd h9 (by decide +kernel)) (fun _ => ?_)
      refine lv_iload hx hb d_O_feed_33 (lv_at hl 0 rfl) ?_
      refine lv_iconst (v := 4) hx hb d_O_feed_35 (by decide) ?_
      refine lv_icmp_ge (tgt := 43) hx hb d_O_feed_36 (by decide) (fun _ => ?_) (fun h9 => absurd h9 (by decide +kernel))
      refine lv_iload hx hb d_O_feed_43 (lv_at hl 0 rfl) ?_
      refine lv_bipush (v := 8) hx hb d_O_feed_45 (by decide +kernel) ?_
      refine lv_icmp_ge (tgt := 54) hx hb d_O_feed_47 (by decide) (fun _ => ?_) (fun h9 => absurd h9 (by decide +kernel))
      refine lv_iload hx hb d_O_feed_54 (lv_at hl 0 rfl) ?_
      refine lv_bipush (v := 12) hx hb d_O_feed_56 (by decide +kernel) ?_
      refine lv_icmp_ge (tgt := 65) hx hb d_O_feed_58 (by decide) (fun _ => ?_) (fun h9 => absurd h9 (by decide +kernel))
      refine lv_iload hx hb d_O_feed_65 (lv_at hl 0 rfl) ?_
      refine lv_bipush (v := 16) hx hb d_O_feed_67 (by decide +kernel) ?_
      refine lv_icmp_ge (tgt := 77) hx hb d_O_feed_69 (by decide) (fun _ => ?_) (fun h9 => absurd h9 (by decide +kernel))
      refine lv_iload hx hb d_O_feed_77 (lv_at hl 7 rfl) ?_
      refine lv_istore (lv' := [(7, .int a5), (6, .int 16), (0, .ref h0), (1, .int a1), (2, .int a2), (3, .int a3), (4, .int a4), (5, .int a5)]) hx hb d_O_feed_79 hl (by decide) rfl (fun ls hl => ?_)
      refine lv_aload_n hx hb d_O_feed_81 rfl (lv_at hl 2 rfl) ?_
      refine va_get (D := (dC, dI)) (ci := 7) (v := .ref hbu) (C := R_O) (T := F_O) (N := 27) hx hb hw0 in_O hown hK hP 13 rfl rfl 3 (by decide) (hw0 (.fieldLink R_O 13 "TextKeeperModel" "buffer" "[B") wm_247) (fun _ h9 => h9) rfl d_O_feed_82 ?_
      refine lv_aload_n hx hb d_O_feed_85 rfl (lv_at hl 2 rfl) ?_
      refine va_get (D := (dC, dI)) (ci := 7) (v := .int (nI (σ.buf.length + 16))) (C := R_O) (T := F_O) (N := 27) hx hb hw0 in_O hown hK hP 13 rfl rfl 4 (by decide) (hw0 (.fieldLink R_O 69 "TextKeeperModel" "size" "I") wm_245) (fun _ h9 => h9) rfl d_O_feed_86 ?_
      refine lv_iload hx hb d_O_feed_89 (lv_at hl 0 rfl) ?_
      refine lv_bipush (v := 24) hx hb d_O_feed_91 (by decide +kernel) ?_
      refine lv_bipush (v := 8) hx hb d_O_feed_93 (by decide +kernel) ?_
      refine lv_iload hx hb d_O_feed_95 (lv_at hl 1 rfl) ?_
      refine lv_iconst (v := 4) hx hb d_O_feed_97 (by decide) ?_
      refine lv_irem hx hb d_O_feed_98 (by decide +kernel) ?_
      refine lv_topi (fun x_85 ex_85 => ?_)
      obtain rfl : x_85 = 0 := ex_85.trans (by decide +kernel)
      clear ex_85
      refine lv_imul hx hb d_O_feed_99 ?_
      refine lv_topi (fun x_86 ex_86 => ?_)
      obtain rfl : x_86 = 0 := ex_86.trans (by decide +kernel)
      clear ex_86
      refine lv_isub hx hb d_O_feed_100 ?_
      refine lv_topi (fun x_87 ex_87 => ?_)
      obtain rfl : x_87 = 24 := ex_87.trans (by decide +kernel)
      clear ex_87
      refine lv_ishr hx hb d_O_feed_101 ?_
      obtain ⟨x_88, ex_88⟩ : ∃ y : Int32, (a5 >>> (24 &&& 31)).toInt8.toInt32 = y := ⟨_, rfl⟩
      refine lv_i2b (v := x_88) hx hb d_O_feed_102 ex_88 ?_
      refine va_bast hx hb hK hP hD hS 0 0 rfl rfl (vp_in_nI (by omega) (by decide)) d_O_feed_103 (fun H locs hP hD hS => ?_)
      replace hP : va_P (dC, dI) vwCl [(hbu, .inl (cB, 256, .inl (upd (ff16) (Int32.toNatClampNeg (nI (σ.buf.length + 16))) (vp_nar .byte (x_88))))), (hgo, .inl (cZ, 8, .inl (fg))), (hfi, .inl (cI, 8, .inl (ff))), (hma, .inl (cI, 8, .inl (fm))), (hln, .inl (cL, 512, .inl (fl))), (hau, .inl (cI, 512, .inl (fa))), (hsu, .inl (cI, 512, .inl (fs))), (hrow, .inl (cB, 16384, .inl (fr))), (hmade, .inl (cB, 256, .inl (f))), (hbase, .inl (cB, 256, .inl (fb))), (htx9, .inl (cB, 256, .inl (ft))), (hot, .inl (cB, 256, .inl (fo))), (hpc, .inl (cB, 600, .inl (fp))), (h0, .inr (7, [.int 0, .int 0, .int (vI σ.go), .ref hbu, .int (nI (σ.buf.length + 16)), .int (nI σ.nd), .ref hgo, .ref hfi, .ref hma, .ref hln, .ref hau, .ref hsu, .ref hrow, .ref hmade, .int z_madeSize, .ref hbase, .int z_baseSize, .ref htx9, .int z_textSize, .int σ.stp, .ref hot, .int z_otherSize, .ref hpc, .int z_pieceSize, .int z_at, .int z_end, .int z_value]))] H := hP
      replace hD : va_D A [(hbu, .inl (cB, 256, .inl (upd (ff16) (Int32.toNatClampNeg (nI (σ.buf.length + 16))) (vp_nar .byte (x_88))))), (hgo, .inl (cZ, 8, .inl (fg))), (hfi, .inl (cI, 8, .inl (ff))), (hma, .inl (cI, 8, .inl (fm))), (hln, .inl (cL, 512, .inl (fl))), (hau, .inl (cI, 512, .inl (fa))), (hsu, .inl (cI, 512, .inl (fs))), (hrow, .inl (cB, 16384, .inl (fr))), (hmade, .inl (cB, 256, .inl (f))), (hbase, .inl (cB, 256, .inl (fb))), (htx9, .inl (cB, 256, .inl (ft))), (hot, .inl (cB, 256, .inl (fo))), (hpc, .inl (cB, 600, .inl (fp))), (h0, .inr (7, [.int 0, .int 0, .int (vI σ.go), .ref hbu, .int (nI (σ.buf.length + 16)), .int (nI σ.nd), .ref hgo, .ref hfi, .ref hma, .ref hln, .ref hau, .ref hsu, .ref hrow, .ref hmade, .int z_madeSize, .ref hbase, .int z_baseSize, .ref htx9, .int z_textSize, .int σ.stp, .ref hot, .int z_otherSize, .ref hpc, .int z_pieceSize, .int z_at, .int z_end, .int z_value]))] := hD
      have eS : upd (ff16) (Int32.toNatClampNeg (nI (σ.buf.length + 16))) (vp_nar .byte (x_88)) = upd ff16 (σ.buf.length + 16) (nbb (a5 >>> (24 &&& 31))) := by rw [nI_clamp (by omega), ← ex_88]; exact congrArg (upd ff16 (σ.buf.length + 16)) (pk_vb _)
      rw [eS] at hP hD
      have ht17 := tx_push ht16 (nbb_B (a5 >>> (24 &&& 31)))
      clear eS
      generalize upd ff16 (σ.buf.length + 16) (nbb (a5 >>> (24 &&& 31))) = ff17 at hP hD ht17
      refine lv_aload_n hx hb d_O_feed_104 rfl (lv_at hl 2 rfl) ?_
      refine lv_dup hx hb d_O_feed_105 rfl ?_
      refine va_get (D := (dC, dI)) (ci := 7) (v := .int (nI (σ.buf.length + 16))) (C := R_O) (T := F_O) (N := 27) hx hb hw0 in_O hown hK hP 13 rfl rfl 4 (by decide) (hw0 (.fieldLink R_O 69 "TextKeeperModel" "size" "I") wm_245) (fun _ h9 => h9) rfl d_O_feed_106 ?_
      refine lv_iconst (v := 1) hx hb d_O_feed_109 (by decide) ?_
      refine lv_iadd hx hb d_O_feed_110 ?_
      refine lv_topi (fun x_89 ex_89 => ?_)
      obtain rfl : x_89 = (nI (σ.buf.length + 17)) := by rw [ex_89]; exact nI_1 _
      clear ex_89
      refine va_put (D := (dC, dI)) (ci := 7) (v := .int (nI (σ.buf.length + 17))) (ty := .int) (C := R_O) (T := F_O) (N := 27) hx hb hw0 in_O ft_O tk_O nk_O hown hK hP hD hS 13 rfl rfl 4 (by decide) (hw0 (.fieldLink R_O 69 "TextKeeperModel" "size" "I") wm_245) (fun _ h9 => h9) rfl (by decide +kernel) rfl rfl (Nat.le_of_ble_eq_true rfl) d_O_feed_111 (fun H locs hP hD hS => ?_)
      replace hP : va_P (dC, dI) vwCl [(hbu, .inl (cB, 256, .inl (ff17))), (hgo, .inl (cZ, 8, .inl (fg))), (hfi, .inl (cI, 8, .inl (ff))), (hma, .inl (cI, 8, .inl (fm))), (hln, .inl (cL, 512, .inl (fl))), (hau, .inl (cI, 512, .inl (fa))), (hsu, .inl (cI, 512, .inl (fs))), (hrow, .inl (cB, 16384, .inl (fr))), (hmade, .inl (cB, 256, .inl (f))), (hbase, .inl (cB, 256, .inl (fb))), (htx9, .inl (cB, 256, .inl (ft))), (hot, .inl (cB, 256, .inl (fo))), (hpc, .inl (cB, 600, .inl (fp))), (h0, .inr (7, [.int 0, .int 0, .int (vI σ.go), .ref hbu, .int (nI (σ.buf.length + 17)), .int (nI σ.nd), .ref hgo, .ref hfi, .ref hma, .ref hln, .ref hau, .ref hsu, .ref hrow, .ref hmade, .int z_madeSize, .ref hbase, .int z_baseSize, .ref htx9, .int z_textSize, .int σ.stp, .ref hot, .int z_otherSize, .ref hpc, .int z_pieceSize, .int z_at, .int z_end, .int z_value]))] H := hP
      replace hD : va_D A [(hbu, .inl (cB, 256, .inl (ff17))), (hgo, .inl (cZ, 8, .inl (fg))), (hfi, .inl (cI, 8, .inl (ff))), (hma, .inl (cI, 8, .inl (fm))), (hln, .inl (cL, 512, .inl (fl))), (hau, .inl (cI, 512, .inl (fa))), (hsu, .inl (cI, 512, .inl (fs))), (hrow, .inl (cB, 16384, .inl (fr))), (hmade, .inl (cB, 256, .inl (f))), (hbase, .inl (cB, 256, .inl (fb))), (htx9, .inl (cB, 256, .inl (ft))), (hot, .inl (cB, 256, .inl (fo))), (hpc, .inl (cB, 600, .inl (fp))), (h0, .inr (7, [.int 0, .int 0, .int (vI σ.go), .ref hbu, .int (nI (σ.buf.length + 17)), .int (nI σ.nd), .ref hgo, .ref hfi, .ref hma, .ref hln, .ref hau, .ref hsu, .ref hrow, .ref hmade, .int z_madeSize, .ref hbase, .int z_baseSize, .ref htx9, .int z_textSize, .int σ.stp, .ref hot, .int z_otherSize, .ref hpc, .int z_pieceSize, .int z_at, .int z_end, .int z_value]))] := hD
      refine lv_iinc (v := 17) (lv' := [(6, .int 17), (7, .int a5), (0, .ref h0), (1, .int a1), (2, .int a2), (3, .int a3), (4, .int a4), (5, .int a5)]) hx hb d_O_feed_114 hl (k := 1) rfl (by decide +kernel) (by decide) rfl (fun ls hl => ?_)
      refine lv_goto (tgt := 26) hx hb d_O_feed_117 (by decide) ?_
      refine lv_iload hx hb d_O_feed_26 (lv_at hl 0 rfl) ?_
      refine lv_bipush (v := 20) hx hb d_O_feed_28 (by decide +kernel) ?_
      refine lv_icmp_ge (tgt := 120) hx hb d_O_feed_30 (by decide) (fun h9 => absurd h9 (by decide +kernel)) (fun _ => ?_)
      refine lv_iload hx hb d_O_feed_33 (lv_at hl 0 rfl) ?_
      refine lv_iconst (v := 4) hx hb d_O_feed_35 (by decide) ?_
      refine lv_icmp_ge (tgt := 43) hx hb d_O_feed_36 (by decide) (fun _ => ?_) (fun h9 => absurd h9 (by decide +kernel))
      refine lv_iload hx hb d_O_feed_43 (lv_at hl 0 rfl) ?_
      refine lv_bipush (v := 8) hx hb d_O_feed_45 (by decide +kernel) ?_
      refine lv_icmp_ge (tgt := 54) hx hb d_O_feed_47 (by decide) (fun _ => ?_) (fun h9 => absurd h9 (by decide +kernel))
      refine lv_iload hx hb d_O_feed_54 (lv_at hl 0 rfl) ?_
      refine lv_bipush (v := 12) hx hb d_O_feed_56 (by decide +kernel) ?_
      refine lv_icmp_ge (tgt := 65) hx hb d_O_feed_58 (by decide) (fun _ => ?_) (fun h9 => absurd h9 (by decide +kernel))
      refine lv_iload hx hb d_O_feed_65 (lv_at hl 0 rfl) ?_
      refine lv_bipush (v := 16) hx hb d_O_feed_67 (by decide +kernel) ?_
      refine lv_icmp_ge (tgt := 77) hx hb d_O_feed_69 (by decide) (fun _ => ?_) (fun h9 => absurd h9 (by decide +kernel))
      refine lv_iload hx hb d_O_feed_77 (lv_at hl 7 rfl) ?_
      refine lv_istore (lv' := [(7, .int a5), (6, .int 17), (0, .ref h0), (1, .int a1), (2, .int a2), (3, .int a3), (4, .int a4), (5, .int a5)]) hx hb d_O_feed_79 hl (by decide) rfl (fun ls hl => ?_)
      refine lv_aload_n hx hb d_O_feed_81 rfl (lv_at hl 2 rfl) ?_
      refine va_get (D := (dC, dI)) (ci := 7) (v := .ref hbu) (C := R_O) (T := F_O) (N := 27) hx hb hw0 in_O hown hK hP 13 rfl rfl 3 (by decide) (hw0 (.fieldLink R_O 13 "TextKeeperModel" "buffer" "[B") wm_247) (fun _ h9 => h9) rfl d_O_feed_82 ?_
      refine lv_aload_n hx hb d_O_feed_85 rfl (lv_at hl 2 rfl) ?_
      refine va_get (D := (dC, dI)) (ci := 7) (v := .int (nI (σ.buf.length + 17))) (C := R_O) (T := F_O) (N := 27) hx hb hw0 in_O hown hK hP 13 rfl rfl 4 (by decide) (hw0 (.fieldLink R_O 69 "TextKeeperModel" "size" "I") wm_245) (fun _ h9 => h9) rfl d_O_feed_86 ?_
      refine lv_iload hx hb d_O_feed_89 (lv_at hl 0 rfl) ?_
      refine lv_bipush (v := 24) hx hb d_O_feed_91 (by decide +kernel) ?_
      refine lv_bipush (v := 8) hx hb d_O_feed_93 (by decide +kernel) ?_
      refine lv_iload hx hb d_O_feed_95 (lv_at hl 1 rfl) ?_
      refine lv_iconst (v := 4) hx hb d_O_feed_97 (by decide) ?_
      refine lv_irem hx hb d_O_feed_98 (by decide +kernel) ?_
      refine lv_topi (fun x_90 ex_90 => ?_)
      obtain rfl : x_90 = 1 := ex_90.trans (by decide +kernel)
      clear ex_90
      refine lv_imul hx hb d_O_feed_99 ?_
      refine lv_topi (fun x_91 ex_91 => ?_)
      obtain rfl : x_91 = 8 := ex_91.trans (by decide +kernel)
      clear ex_91
      refine lv_isub hx hb d_O_feed_100 ?_
      refine lv_topi (fun x_92 ex_92 => ?_)
      obtain rfl : x_92 = 16 := ex_92.trans (by decide +kernel)
      clear ex_92
      refine lv_ishr hx hb d_O_feed_101 ?_
      obtain ⟨x_93, ex_93⟩ : ∃ y : Int32, (a5 >>> (16 &&& 31)).toInt8.toInt32 = y := ⟨_, rfl⟩
      refine lv_i2b (v := x_93) hx hb d_O_feed_102 ex_93 ?_
      refine va_bast hx hb hK hP hD hS 0 0 rfl rfl (vp_in_nI (by omega) (by decide)) d_O_feed_103 (fun H locs hP hD hS => ?_)
      replace hP : va_P (dC, dI) vwCl [(hbu, .inl (cB, 256, .inl (upd (ff17) (Int32.toNatClampNeg (nI (σ.buf.length + 17))) (vp_nar .byte (x_93))))), (hgo, .inl (cZ, 8, .inl (fg))), (hfi, .inl (cI, 8, .inl (ff))), (hma, .inl (cI, 8, .inl (fm))), (hln, .inl (cL, 512, .inl (fl))), (hau, .inl (cI, 512, .inl (fa))), (hsu, .inl (cI, 512, .inl (fs))), (hrow, .inl (cB, 16384, .inl (fr))), (hmade, .inl (cB, 256, .inl (f))), (hbase, .inl (cB, 256, .inl (fb))), (htx9, .inl (cB, 256, .inl (ft))), (hot, .inl (cB, 256, .inl (fo))), (hpc, .inl (cB, 600, .inl (fp))), (h0, .inr (7, [.int 0, .int 0, .int (vI σ.go), .ref hbu, .int (nI (σ.buf.length + 17)), .int (nI σ.nd), .ref hgo, .ref hfi, .ref hma, .ref hln, .ref hau, .ref hsu, .ref hrow, .ref hmade, .int z_madeSize, .ref hbase, .int z_baseSize, .ref htx9, .int z_textSize, .int σ.stp, .ref hot, .int z_otherSize, .ref hpc, .int z_pieceSize, .int z_at, .int z_end, .int z_value]))] H := hP
      replace hD : va_D A [(hbu, .inl (cB, 256, .inl (upd (ff17) (Int32.toNatClampNeg (nI (σ.buf.length + 17))) (vp_nar .byte (x_93))))), (hgo, .inl (cZ, 8, .inl (fg))), (hfi, .inl (cI, 8, .inl (ff))), (hma, .inl (cI, 8, .inl (fm))), (hln, .inl (cL, 512, .inl (fl))), (hau, .inl (cI, 512, .inl (fa))), (hsu, .inl (cI, 512, .inl (fs))), (hrow, .inl (cB, 16384, .inl (fr))), (hmade, .inl (cB, 256, .inl (f))), (hbase, .inl (cB, 256, .inl (fb))), (htx9, .inl (cB, 256, .inl (ft))), (hot, .inl (cB, 256, .inl (fo))), (hpc, .inl (cB, 600, .inl (fp))), (h0, .inr (7, [.int 0, .int 0, .int (vI σ.go), .ref hbu, .int (nI (σ.buf.length + 17)), .int (nI σ.nd), .ref hgo, .ref hfi, .ref hma, .ref hln, .ref hau, .ref hsu, .ref hrow, .ref hmade, .int z_madeSize, .ref hbase, .int z_baseSize, .ref htx9, .int z_textSize, .int σ.stp, .ref hot, .int z_otherSize, .ref hpc, .int z_pieceSize, .int z_at, .int z_end, .int z_value]))] := hD
      have eS : upd (ff17) (Int32.toNatClampNeg (nI (σ.buf.length + 17))) (vp_nar .byte (x_93)) = upd ff17 (σ.buf.length + 17) (nbb (a5 >>> (16 &&& 31))) := by rw [nI_clamp (by omega), ← ex_93]; exact congrArg (upd ff17 (σ.buf.length + 17)) (pk_vb _)
      rw [eS] at hP hD
      have ht18 := tx_push ht17 (nbb_B (a5 >>> (16 &&& 31)))
      clear eS
      generalize upd ff17 (σ.buf.length + 17) (nbb (a5 >>> (16 &&& 31))) = ff18 at hP hD ht18
      refine lv_aload_n hx hb d_O_feed_104 rfl (lv_at hl 2 rfl) ?_
      refine lv_dup hx hb d_O_feed_105 rfl ?_
      refine va_get (D := (dC, dI)) (ci := 7) (v := .int (nI (σ.buf.length + 17))) (C := R_O) (T := F_O) (N := 27) hx hb hw0 in_O hown hK hP 13 rfl rfl 4 (by decide) (hw0 (.fieldLink R_O 69 "TextKeeperModel" "size" "I") wm_245) (fun _ h9 => h9) rfl d_O_feed_106 ?_
      refine lv_iconst (v := 1) hx hb d_O_feed_109 (by decide) ?_
      refine lv_iadd hx hb d_O_feed_110 ?_
      refine lv_topi (fun x_94 ex_94 => ?_)
      obtain rfl : x_94 = (nI (σ.buf.length + 18)) := by rw [ex_94]; exact nI_1 _
      clear ex_94
      refine va_put (D := (dC, dI)) (ci := 7) (v := .int (nI (σ.buf.length + 18))) (ty := .int) (C := R_O) (T := F_O) (N := 27) hx hb hw0 in_O ft_O tk_O nk_O hown hK hP hD hS 13 rfl rfl 4 (by decide) (hw0 (.fieldLink R_O 69 "TextKeeperModel" "size" "I") wm_245) (fun _ h9 => h9) rfl (by decide +kernel) rfl rfl (Nat.le_of_ble_eq_true rfl) d_O_feed_111 (fun H locs hP hD hS => ?_)
      replace hP : va_P (dC, dI) vwCl [(hbu, .inl (cB, 256, .inl (ff18))), (hgo, .inl (cZ, 8, .inl (fg))), (hfi, .inl (cI, 8, .inl (ff))), (hma, .inl (cI, 8, .inl (fm))), (hln, .inl (cL, 512, .inl (fl))), (hau, .inl (cI, 512, .inl (fa))), (hsu, .inl (cI, 512, .inl (fs))), (hrow, .inl (cB, 16384, .inl (fr))), (hmade, .inl (cB, 256, .inl (f))), (hbase, .inl (cB, 256, .inl (fb))), (htx9, .inl (cB, 256, .inl (ft))), (hot, .inl (cB, 256, .inl (fo))), (hpc, .inl (cB, 600, .inl (fp))), (h0, .inr (7, [.int 0, .int 0, .int (vI σ.go), .ref hbu, .int (nI (σ.buf.length + 18)), .int (nI σ.nd), .ref hgo, .ref hfi, .ref hma, .ref hln, .ref hau, .ref hsu, .ref hrow, .ref hmade, .int z_madeSize, .ref hbase, .int z_baseSize, .ref htx9, .int z_textSize, .int σ.stp, .ref hot, .int z_otherSize, .ref hpc, .int z_pieceSize, .int z_at, .int z_end, .int z_value]))] H := hP
      replace hD : va_D A [(hbu, .inl (cB, 256, .inl (ff18))), (hgo, .inl (cZ, 8, .inl (fg))), (hfi, .inl (cI, 8, .inl (ff))), (hma, .inl (cI, 8, .inl (fm))), (hln, .inl (cL, 512, .inl (fl))), (hau, .inl (cI, 512, .inl (fa))), (hsu, .inl (cI, 512, .inl (fs))), (hrow, .inl (cB, 16384, .inl (fr))), (hmade, .inl (cB, 256, .inl (f))), (hbase, .inl (cB, 256, .inl (fb))), (htx9, .inl (cB, 256, .inl (ft))), (hot, .inl (cB, 256, .inl (fo))), (hpc, .inl (cB, 600, .inl (fp))), (h0, .inr (7, [.int 0, .int 0, .int (vI σ.go), .ref hbu, .int (nI (σ.buf.length + 18)), .int (nI σ.nd), .ref hgo, .ref hfi, .ref hma, .ref hln, .ref hau, .ref hsu, .ref hrow, .ref hmade, .int z_madeSize, .ref hbase, .int z_baseSize, .ref htx9, .int z_textSize, .int σ.stp, .ref hot, .int z_otherSize, .ref hpc, .int z_pieceSize, .int z_at, .int z_end, .int z_value]))] := hD
      refine lv_iinc (v := 18) (lv' := [(6, .int 18), (7, .int a5), (0, .ref h0), (1, .int a1), (2, .int a2), (3, .int a3), (4, .int a4), (5, .int a5)]) hx hb d_O_feed_114 hl (k := 1) rfl (by decide +kernel) (by decide) rfl (fun ls hl => ?_)
      refine lv_goto (tgt := 26) hx hb d_O_feed_117 (by decide) ?_
      refine lv_iload hx hb d_O_feed_26 (lv_at hl 0 rfl) ?_
      refine lv_bipush (v := 20) hx hb d_O_feed_28 (by decide +kernel) ?_
      refine lv_icmp_ge (tgt := 120) hx hb d_O_feed_30 (by decide) (fun h9 => absurd h9 (by decide +kernel)) (fun _ => ?_)
      refine lv_iload hx hb d_O_feed_33 (lv_at hl 0 rfl) ?_
      refine lv_iconst (v := 4) hx hb d_O_feed_35 (by decide) ?_
      refine lv_icmp_ge (tgt := 43) hx hb d_O_feed_36 (by decide) (fun _ => ?_) (fun h9 => absurd h9 (by decide +kernel))
      refine lv_iload hx hb d_O_feed_43 (lv_at hl 0 rfl) ?_
      refine lv_bipush (v := 8) hx hb d_O_feed_45 (by decide +kernel) ?_
      refine lv_icmp_ge (tgt := 54) hx hb d_O_feed_47 (by decide) (fun _ => ?_) (fun h9 => absurd h9 (by decide +kernel))
      refine lv_iload hx hb d_O_feed_54 (lv_at hl 0 rfl) ?_
      refine lv_bipush (v := 12) hx hb d_O_feed_56 (by decide +kernel) ?_
      refine lv_icmp_ge (tgt := 65) hx hb d_O_feed_58 (by decide) (fun _ => ?_) (fun h9 => absurd h9 (by decide +kernel))
      refine lv_iload hx hb d_O_feed_65 (lv_at hl 0 rfl) ?_
      refine lv_bipush (v := 16) hx hb d_O_feed_67 (by decide +kernel) ?_
      refine lv_icmp_ge (tgt := 77) hx hb d_O_feed_69 (by decide) (fun _ => ?_) (fun h9 => absurd h9 (by decide +kernel))
      refine lv_iload hx hb d_O_feed_77 (lv_at hl 7 rfl) ?_
      refine lv_istore (lv' := [(7, .int a5), (6, .int 18), (0, .ref h0), (1, .int a1), (2, .int a2), (3, .int a3), (4, .int a4), (5, .int a5)]) hx hb d_O_feed_79 hl (by decide) rfl (fun ls hl => ?_)
      refine lv_aload_n hx hb d_O_feed_81 rfl (lv_at hl 2 rfl) ?_
      refine va_get (D := (dC, dI)) (ci := 7) (v := .ref hbu) (C := R_O) (T := F_O) (N := 27) hx hb hw0 in_O hown hK hP 13 rfl rfl 3 (by decide) (hw0 (.fieldLink R_O 13 "TextKeeperModel" "buffer" "[B") wm_247) (fun _ h9 => h9) rfl d_O_feed_82 ?_
      refine lv_aload_n hx hb d_O_feed_85 rfl (lv_at hl 2 rfl) ?_
      refine va_get (D := (dC, dI)) (ci := 7) (v := .int (nI (σ.buf.length + 18))) (C := R_O) (T := F_O) (N := 27) hx hb hw0 in_O hown hK hP 13 rfl rfl 4 (by decide) (hw0 (.fieldLink R_O 69 "TextKeeperModel" "size" "I") wm_245) (fun _ h9 => h9) rfl d_O_feed_86 ?_
      refine lv_iload hx hb d_O_feed_89 (lv_at hl 0 rfl) ?_
      refine lv_bipush (v := 24) hx hb d_O_feed_91 (by decide +kernel) ?_
      refine lv_bipush (v := 8) hx hb d_O_feed_93 (by decide +kernel) ?_
      refine lv_iload hx hb d_O_feed_95 (lv_at hl 1 rfl) ?_
      refine lv_iconst (v := 4) hx hb d_O_feed_97 (by decide) ?_
      refine lv_irem hx hb d_O_feed_98 (by decide +kernel) ?_
      refine lv_topi (fun x_95 ex_95 => ?_)
      obtain rfl : x_95 = 2 := ex_95.trans (by decide +kernel)
      clear ex_95
      refine lv_imul hx hb d_O_feed_99 ?_
      refine lv_topi (fun x_96 ex_96 => ?_)
      obtain rfl : x_96 = 16 := ex_96.trans (by decide +kernel)
      clear ex_96
      refine lv_isub hx hb d_O_feed_100 ?_
      refine lv_topi (fun x_97 ex_97 => ?_)
      obtain rfl : x_97 = 8 := ex_97.trans (by decide +kernel)
      clear ex_97
      refine lv_ishr hx hb d_O_feed_101 ?_
      obtain ⟨x_98, ex_98⟩ : ∃ y : Int32, (a5 >>> (8 &&& 31)).toInt8.toInt32 = y := ⟨_, rfl⟩
      refine lv_i2b (v := x_98) hx hb d_O_feed_102 ex_98 ?_
      refine va_bast hx hb hK hP hD hS 0 0 rfl rfl (vp_in_nI (by omega) (by decide)) d_O_feed_103 (fun H locs hP hD hS => ?_)
      replace hP : va_P (dC, dI) vwCl [(hbu, .inl (cB, 256, .inl (upd (ff18) (Int32.toNatClampNeg (nI (σ.buf.length + 18))) (vp_nar .byte (x_98))))), (hgo, .inl (cZ, 8, .inl (fg))), (hfi, .inl (cI, 8, .inl (ff))), (hma, .inl (cI, 8, .inl (fm))), (hln, .inl (cL, 512, .inl (fl))), (hau, .inl (cI, 512, .inl (fa))), (hsu, .inl (cI, 512, .inl (fs))), (hrow, .inl (cB, 16384, .inl (fr))), (hmade, .inl (cB, 256, .inl (f))), (hbase, .inl (cB, 256, .inl (fb))), (htx9, .inl (cB, 256, .inl (ft))), (hot, .inl (cB, 256, .inl (fo))), (hpc, .inl (cB, 600, .inl (fp))), (h0, .inr (7, [.int 0, .int 0, .int (vI σ.go), .ref hbu, .int (nI (σ.buf.length + 18)), .int (nI σ.nd), .ref hgo, .ref hfi, .ref hma, .ref hln, .ref hau, .ref hsu, .ref hrow, .ref hmade, .int z_madeSize, .ref hbase, .int z_baseSize, .ref htx9, .int z_textSize, .int σ.stp, .ref hot, .int z_otherSize, .ref hpc, .int z_pieceSize, .int z_at, .int z_end, .int z_value]))] H := hP
      replace hD : va_D A [(hbu, .inl (cB, 256, .inl (upd (ff18) (Int32.toNatClampNeg (nI (σ.buf.length + 18))) (vp_nar .byte (x_98))))), (hgo, .inl (cZ, 8, .inl (fg))), (hfi, .inl (cI, 8, .inl (ff))), (hma, .inl (cI, 8, .inl (fm))), (hln, .inl (cL, 512, .inl (fl))), (hau, .inl (cI, 512, .inl (fa))), (hsu, .inl (cI, 512, .inl (fs))), (hrow, .inl (cB, 16384, .inl (fr))), (hmade, .inl (cB, 256, .inl (f))), (hbase, .inl (cB, 256, .inl (fb))), (htx9, .inl (cB, 256, .inl (ft))), (hot, .inl (cB, 256, .inl (fo))), (hpc, .inl (cB, 600, .inl (fp))), (h0, .inr (7, [.int 0, .int 0, .int (vI σ.go), .ref hbu, .int (nI (σ.buf.length + 18)), .int (nI σ.nd), .ref hgo, .ref hfi, .ref hma, .ref hln, .ref hau, .ref hsu, .ref hrow, .ref hmade, .int z_madeSize, .ref hbase, .int z_baseSize, .ref htx9, .int z_textSize, .int σ.stp, .ref hot, .int z_otherSize, .ref hpc, .int z_pieceSize, .int z_at, .int z_end, .int z_value]))] := hD
      have eS : upd (ff18) (Int32.toNatClampNeg (nI (σ.buf.length + 18))) (vp_nar .byte (x_98)) = upd ff18 (σ.buf.length + 18) (nbb (a5 >>> (8 &&& 31))) := by rw [nI_clamp (by omega), ← ex_98]; exact congrArg (upd ff18 (σ.buf.length + 18)) (pk_vb _)
      rw [eS] at hP hD
      have ht19 := tx_push ht18 (nbb_B (a5 >>> (8 &&& 31)))
      clear eS
      generalize upd ff18 (σ.buf.length + 18) (nbb (a5 >>> (8 &&& 31))) = ff19 at hP hD ht19
      refine lv_aload_n hx hb d_O_feed_104 rfl (lv_at hl 2 rfl) ?_
      refine lv_dup hx hb d_O_feed_105 rfl ?_
      refine va_get (D := (dC, dI)) (ci := 7) (v := .int (nI (σ.buf.length + 18))) (C := R_O) (T := F_O) (N := 27) hx hb hw0 in_O hown hK hP 13 rfl rfl 4 (by decide) (hw0 (.fieldLink R_O 69 "TextKeeperModel" "size" "I") wm_245) (fun _ h9 => h9) rfl d_O_feed_106 ?_
      refine lv_iconst (v := 1) hx hb d_O_feed_109 (by decide) ?_
      refine lv_iadd hx hb d_O_feed_110 ?_
      refine lv_topi (fun x_99 ex_99 => ?_)
      obtain rfl : x_99 = (nI (σ.buf.length + 19)) := by rw [ex_99]; exact nI_1 _
      clear ex_99
      refine va_put (D := (dC, dI)) (ci := 7) (v := .int (nI (σ.buf.length + 19))) (ty := .int) (C := R_O) (T := F_O) (N := 27) hx hb hw0 in_O ft_O tk_O nk_O hown hK hP hD hS 13 rfl rfl 4 (by decide) (hw0 (.fieldLink R_O 69 "TextKeeperModel" "size" "I") wm_245) (fun _ h9 => h9) rfl (by decide +kernel) rfl rfl (Nat.le_of_ble_eq_true rfl) d_O_feed_111 (fun H locs hP hD hS => ?_)
      replace hP : va_P (dC, dI) vwCl [(hbu, .inl (cB, 256, .inl (ff19))), (hgo, .inl (cZ, 8, .inl (fg))), (hfi, .inl (cI, 8, .inl (ff))), (hma, .inl (cI, 8, .inl (fm))), (hln, .inl (cL, 512, .inl (fl))), (hau, .inl (cI, 512, .inl (fa))), (hsu, .inl (cI, 512, .inl (fs))), (hrow, .inl (cB, 16384, .inl (fr))), (hmade, .inl (cB, 256, .inl (f))), (hbase, .inl (cB, 256, .inl (fb))), (htx9, .inl (cB, 256, .inl (ft))), (hot, .inl (cB, 256, .inl (fo))), (hpc, .inl (cB, 600, .inl (fp))), (h0, .inr (7, [.int 0, .int 0, .int (vI σ.go), .ref hbu, .int (nI (σ.buf.length + 19)), .int (nI σ.nd), .ref hgo, .ref hfi, .ref hma, .ref hln, .ref hau, .ref hsu, .ref hrow, .ref hmade, .int z_madeSize, .ref hbase, .int z_baseSize, .ref htx9, .int z_textSize, .int σ.stp, .ref hot, .int z_otherSize, .ref hpc, .int z_pieceSize, .int z_at, .int z_end, .int z_value]))] H := hP
      replace hD : va_D A [(hbu, .inl (cB, 256, .inl (ff19))), (hgo, .inl (cZ, 8, .inl (fg))), (hfi, .inl (cI, 8, .inl (ff))), (hma, .inl (cI, 8, .inl (fm))), (hln, .inl (cL, 512, .inl (fl))), (hau, .inl (cI, 512, .inl (fa))), (hsu, .inl (cI, 512, .inl (fs))), (hrow, .inl (cB, 16384, .inl (fr))), (hmade, .inl (cB, 256, .inl (f))), (hbase, .inl (cB, 256, .inl (fb))), (htx9, .inl (cB, 256, .inl (ft))), (hot, .inl (cB, 256, .inl (fo))), (hpc, .inl (cB, 600, .inl (fp))), (h0, .inr (7, [.int 0, .int 0, .int (vI σ.go), .ref hbu, .int (nI (σ.buf.length + 19)), .int (nI σ.nd), .ref hgo, .ref hfi, .ref hma, .ref hln, .ref hau, .ref hsu, .ref hrow, .ref hmade, .int z_madeSize, .ref hbase, .int z_baseSize, .ref htx9, .int z_textSize, .int σ.stp, .ref hot, .int z_otherSize, .ref hpc, .int z_pieceSize, .int z_at, .int z_end, .int z_value]))] := hD
      refine lv_iinc (v := 19) (lv' := [(6, .int 19), (7, .int a5), (0, .ref h0), (1, .int a1), (2, .int a2), (3, .int a3), (4, .int a4), (5, .int a5)]) hx hb d_O_feed_114 hl (k := 1) rfl (by decide +kernel) (by decide) rfl (fun ls hl => ?_)
      refine lv_goto (tgt := 26) hx hb d_O_feed_117 (by decide) ?_
      refine lv_iload hx hb d_O_feed_26 (lv_at hl 0 rfl) ?_
      refine lv_bipush (v := 20) hx hb d_O_feed_28 (by decide +kernel) ?_
      refine lv_icmp_ge (tgt := 120) hx hb d_O_feed_30 (by decide) (fun h9 => absurd h9 (by decide +kernel)) (fun _ => ?_)
      refine lv_iload hx hb d_O_feed_33 (lv_at hl 0 rfl) ?_
      refine lv_iconst (v := 4) hx hb d_O_feed_35 (by decide) ?_
      refine lv_icmp_ge (tgt := 43) hx hb d_O_feed_36 (by decide) (fun _ => ?_) (fun h9 => absurd h9 (by decide +kernel))
      refine lv_iload hx hb d_O_feed_43 (lv_at hl 0 rfl) ?_
      refine lv_bipush (v := 8) hx hb d_O_feed_45 (by decide +kernel) ?_
      refine lv_icmp_ge (tgt := 54) hx hb d_O_feed_47 (by decide) (fun _ => ?_) (fun h9 => absurd h9 (by decide +kernel))
      refine lv_iload hx hb d_O_feed_54 (lv_at hl 0 rfl) ?_
      refine lv_bipush (v := 12) hx hb d_O_feed_56 (by decide +kernel) ?_
      refine lv_icmp_ge (tgt := 65) hx hb d_O_feed_58 (by decide) (fun _ => ?_) (fun h9 => absurd h9 (by decide +kernel))
      refine lv_iload hx hb d_O_feed_65 (lv_at hl 0 rfl) ?_
      refine lv_bipush (v := 16) hx hb d_O_feed_67 (by decide +kernel) ?_
      refine lv_icmp_ge (tgt := 77) hx hb d_O_feed_69 (by decide) (fun _ => ?_) (fun h9 => absurd h9 (by decide +kernel))
      refine lv_iload hx hb d_O_feed_77 (lv_at hl 7 rfl) ?_
      refine lv_istore (lv' := [(7, .int a5), (6, .int 19), (0, .ref h0), (1, .int a1), (2, .int a2), (3, .int a3), (4, .int a4), (5, .int a5)]) hx hb d_O_feed_79 hl (by decide) rfl (fun ls hl => ?_)
      refine lv_aload_n hx hb d_O_feed_81 rfl (lv_at hl 2 rfl) ?_
      refine va_get (D := (dC, dI)) (ci := 7) (v := .ref hbu) (C := R_O) (T := F_O) (N := 27) hx hb hw0 in_O hown hK hP 13 rfl rfl 3 (by decide) (hw0 (.fieldLink R_O 13 "TextKeeperModel" "buffer" "[B") wm_247) (fun _ h9 => h9) rfl d_O_feed_82 ?_
      refine lv_aload_n hx hb d_O_feed_85 rfl (lv_at hl 2 rfl) ?_
      refine va_get (D := (dC, dI)) (ci := 7) (v := .int (nI (σ.buf.length + 19))) (C := R_O) (T := F_O) (N := 27) hx hb hw0 in_O hown hK hP 13 rfl rfl 4 (by decide) (hw0 (.fieldLink R_O 69 "TextKeeperModel" "size" "I") wm_245) (fun _ h9 => h9) rfl d_O_feed_86 ?_
      refine lv_iload hx hb d_O_feed_89 (lv_at hl 0 rfl) ?_
      refine lv_bipush (v := 24) hx hb d_O_feed_91 (by decide +kernel) ?_
      refine lv_bipush (v := 8) hx hb d_O_feed_93 (by decide +kernel) ?_
      refine lv_iload hx hb d_O_feed_95 (lv_at hl 1 rfl) ?_
      refine lv_iconst (v := 4) hx hb d_O_feed_97 (by decide) ?_
      refine lv_irem hx hb d_O_feed_98 (by decide +kernel) ?_
      refine lv_topi (fun x_100 ex_100 => ?_)
      obtain rfl : x_100 = 3 := ex_100.trans (by decide +kernel)
      clear ex_100
      refine lv_imul hx hb d_O_feed_99 ?_
      refine lv_topi (fun x_101 ex_101 => ?_)
      obtain rfl : x_101 = 24 := ex_101.trans (by decide +kernel)
      clear ex_101
      refine lv_isub hx hb d_O_feed_100 ?_
      refine lv_topi (fun x_102 ex_102 => ?_)
      obtain rfl : x_102 = 0 := ex_102.trans (by decide +kernel)
      clear ex_102
      refine lv_ishr hx hb d_O_feed_101 ?_
      obtain ⟨x_103, ex_103⟩ : ∃ y : Int32, (a5 >>> (0 &&& 31)).toInt8.toInt32 = y := ⟨_, rfl⟩
      refine lv_i2b (v := x_103) hx hb d_O_feed_102 ex_103 ?_
      refine va_bast hx hb hK hP hD hS 0 0 rfl rfl (vp_in_nI (by omega) (by decide)) d_O_feed_103 (fun H locs hP hD hS => ?_)
      replace hP : va_P (dC, dI) vwCl [(hbu, .inl (cB, 256, .inl (upd (ff19) (Int32.toNatClampNeg (nI (σ.buf.length + 19))) (vp_nar .byte (x_103))))), (hgo, .inl (cZ, 8, .inl (fg))), (hfi, .inl (cI, 8, .inl (ff))), (hma, .inl (cI, 8, .inl (fm))), (hln, .inl (cL, 512, .inl (fl))), (hau, .inl (cI, 512, .inl (fa))), (hsu, .inl (cI, 512, .inl (fs))), (hrow, .inl (cB, 16384, .inl (fr))), (hmade, .inl (cB, 256, .inl (f))), (hbase, .inl (cB, 256, .inl (fb))), (htx9, .inl (cB, 256, .inl (ft))), (hot, .inl (cB, 256, .inl (fo))), (hpc, .inl (cB, 600, .inl (fp))), (h0, .inr (7, [.int 0, .int 0, .int (vI σ.go), .ref hbu, .int (nI (σ.buf.length + 19)), .int (nI σ.nd), .ref hgo, .ref hfi, .ref hma, .ref hln, .ref hau, .ref hsu, .ref hrow, .ref hmade, .int z_madeSize, .ref hbase, .int z_baseSize, .ref htx9, .int z_textSize, .int σ.stp, .ref hot, .int z_otherSize, .ref hpc, .int z_pieceSize, .int z_at, .int z_end, .int z_value]))] H := hP
      replace hD : va_D A [(hbu, .inl (cB, 256, .inl (upd (ff19) (Int32.toNatClampNeg (nI (σ.buf.length + 19))) (vp_nar .byte (x_103))))), (hgo, .inl (cZ, 8, .inl (fg))), (hfi, .inl (cI, 8, .inl (ff))), (hma, .inl (cI, 8, .inl (fm))), (hln, .inl (cL, 512, .inl (fl))), (hau, .inl (cI, 512, .inl (fa))), (hsu, .inl (cI, 512, .inl (fs))), (hrow, .inl (cB, 16384, .inl (fr))), (hmade, .inl (cB, 256, .inl (f))), (hbase, .inl (cB, 256, .inl (fb))), (htx9, .inl (cB, 256, .inl (ft))), (hot, .inl (cB, 256, .inl (fo))), (hpc, .inl (cB, 600, .inl (fp))), (h0, .inr (7, [.int 0, .int 0, .int (vI σ.go), .ref hbu, .int (nI (σ.buf.length + 19)), .int (nI σ.nd), .ref hgo, .ref hfi, .ref hma, .ref hln, .ref hau, .ref hsu, .ref hrow, .ref hmade, .int z_madeSize, .ref hbase, .int z_baseSize, .ref htx9, .int z_textSize, .int σ.stp, .ref hot, .int z_otherSize, .ref hpc, .int z_pieceSize, .int z_at, .int z_end, .int z_value]))] := hD
      have eS : upd (ff19) (Int32.toNatClampNeg (nI (σ.buf.length + 19))) (vp_nar .byte (x_103)) = upd ff19 (σ.buf.length + 19) (nbb (a5 >>> (0 &&& 31))) := by rw [nI_clamp (by omega), ← ex_103]; exact congrArg (upd ff19 (σ.buf.length + 19)) (pk_vb _)
      rw [eS] at hP hD
      have ht20 := tx_push ht19 (nbb_B (a5 >>> (0 &&& 31)))
      clear eS
      generalize upd ff19 (σ.buf.length + 19) (nbb (a5 >>> (0 &&& 31))) = ff20 at hP hD ht20
      refine lv_aload_n hx hb d_O_feed_104 rfl (lv_at hl 2 rfl) ?_
      refine lv_dup hx hb d_O_feed_105 rfl ?_
      refine va_get (D := (dC, dI)) (ci := 7) (v := .int (nI (σ.buf.length + 19))) (C := R_O) (T := F_O) (N := 27) hx hb hw0 in_O hown hK hP 13 rfl rfl 4 (by decide) (hw0 (.fieldLink R_O 69 "TextKeeperModel" "size" "I") wm_245) (fun _ h9 => h9) rfl d_O_feed_106 ?_
      refine lv_iconst (v := 1) hx hb d_O_feed_109 (by decide) ?_
      refine lv_iadd hx hb d_O_feed_110 ?_
      refine lv_topi (fun x_104 ex_104 => ?_)
      obtain rfl : x_104 = (nI (σ.buf.length + 20)) := by rw [ex_104]; exact nI_1 _
      clear ex_104
      refine va_put (D := (dC, dI)) (ci := 7) (v := .int (nI (σ.buf.length + 20))) (ty := .int) (C := R_O) (T := F_O) (N := 27) hx hb hw0 in_O ft_O tk_O nk_O hown hK hP hD hS 13 rfl rfl 4 (by decide) (hw0 (.fieldLink R_O 69 "TextKeeperModel" "size" "I") wm_245) (fun _ h9 => h9) rfl (by decide +kernel) rfl rfl (Nat.le_of_ble_eq_true rfl) d_O_feed_111 (fun H locs hP hD hS => ?_)
      replace hP : va_P (dC, dI) vwCl [(hbu, .inl (cB, 256, .inl (ff20))), (hgo, .inl (cZ, 8, .inl (fg))), (hfi, .inl (cI, 8, .inl (ff))), (hma, .inl (cI, 8, .inl (fm))), (hln, .inl (cL, 512, .inl (fl))), (hau, .inl (cI, 512, .inl (fa))), (hsu, .inl (cI, 512, .inl (fs))), (hrow, .inl (cB, 16384, .inl (fr))), (hmade, .inl (cB, 256, .inl (f))), (hbase, .inl (cB, 256, .inl (fb))), (htx9, .inl (cB, 256, .inl (ft))), (hot, .inl (cB, 256, .inl (fo))), (hpc, .inl (cB, 600, .inl (fp))), (h0, .inr (7, [.int 0, .int 0, .int (vI σ.go), .ref hbu, .int (nI (σ.buf.length + 20)), .int (nI σ.nd), .ref hgo, .ref hfi, .ref hma, .ref hln, .ref hau, .ref hsu, .ref hrow, .ref hmade, .int z_madeSize, .ref hbase, .int z_baseSize, .ref htx9, .int z_textSize, .int σ.stp, .ref hot, .int z_otherSize, .ref hpc, .int z_pieceSize, .int z_at, .int z_end, .int z_value]))] H := hP
      replace hD : va_D A [(hbu, .inl (cB, 256, .inl (ff20))), (hgo, .inl (cZ, 8, .inl (fg))), (hfi, .inl (cI, 8, .inl (ff))), (hma, .inl (cI, 8, .inl (fm))), (hln, .inl (cL, 512, .inl (fl))), (hau, .inl (cI, 512, .inl (fa))), (hsu, .inl (cI, 512, .inl (fs))), (hrow, .inl (cB, 16384, .inl (fr))), (hmade, .inl (cB, 256, .inl (f))), (hbase, .inl (cB, 256, .inl (fb))), (htx9, .inl (cB, 256, .inl (ft))), (hot, .inl (cB, 256, .inl (fo))), (hpc, .inl (cB, 600, .inl (fp))), (h0, .inr (7, [.int 0, .int 0, .int (vI σ.go), .ref hbu, .int (nI (σ.buf.length + 20)), .int (nI σ.nd), .ref hgo, .ref hfi, .ref hma, .ref hln, .ref hau, .ref hsu, .ref hrow, .ref hmade, .int z_madeSize, .ref hbase, .int z_baseSize, .ref htx9, .int z_textSize, .int σ.stp, .ref hot, .int z_otherSize, .ref hpc, .int z_pieceSize, .int z_at, .int z_end, .int z_value]))] := hD
      refine lv_iinc (v := 20) (lv' := [(6, .int 20), (7, .int a5), (0, .ref h0), (1, .int a1), (2, .int a2), (3, .int a3), (4, .int a4), (5, .int a5)]) hx hb d_O_feed_114 hl (k := 1) rfl (by decide +kernel) (by decide) rfl (fun ls hl => ?_)
      refine lv_goto (tgt := 26) hx hb d_O_feed_117 (by decide) ?_
      refine lv_iload hx hb d_O_feed_26 (lv_at hl 0 rfl) ?_
      refine lv_bipush (v := 20) hx hb d_O_feed_28 (by decide +kernel) ?_
      refine lv_icmp_ge (tgt := 120) hx hb d_O_feed_30 (by decide) (fun _ => ?_) (fun h9 => absurd h9 (by decide +kernel))
      refine lv_iconst (v := 1) hx hb d_O_feed_120 (by decide) ?_
      have hσ : (sFeed σ a1 a2 a3 a4 a5) = (sgB σ (σ.buf ++ (fb4 a1 ++ (fb4 a2 ++ (fb4 a3 ++ (fb4 a4 ++ fb4 a5))))), 0, 1) := (by unfold sFeed; rw [if_neg (by rw [hdw]; decide), if_neg (by omega)])
      have hP9 := hP.sub (ws' := [(h0, .inr (7, [.int 0, .int 0, .int (vI σ.go), .ref hbu, .int (nI (σ.buf.length + 20)), .int (nI σ.nd), .ref hgo, .ref hfi, .ref hma, .ref hln, .ref hau, .ref hsu, .ref hrow, .ref hmade, .int z_madeSize, .ref hbase, .int z_baseSize, .ref htx9, .int z_textSize, .int σ.stp, .ref hot, .int z_otherSize, .ref hpc, .int z_pieceSize, .int z_at, .int z_end, .int z_value])), (hbu, .inl (cB, 256, .inl (ff20))), (hgo, .inl (cZ, 8, .inl (fg))), (hfi, .inl (cI, 8, .inl (ff))), (hma, .inl (cI, 8, .inl (fm))), (hln, .inl (cL, 512, .inl (fl))), (hau, .inl (cI, 512, .inl (fa))), (hsu, .inl (cI, 512, .inl (fs))), (hrow, .inl (cB, 16384, .inl (fr))), (hmade, .inl (cB, 256, .inl (f))), (hbase, .inl (cB, 256, .inl (fb))), (htx9, .inl (cB, 256, .inl (ft))), (hot, .inl (cB, 256, .inl (fo))), (hpc, .inl (cB, 600, .inl (fp)))]) [13, 0, 1, 2, 3, 4, 5, 6, 7, 8, 9, 10, 11, 12] rfl
      have hD9 := hD.sub (ws' := [(h0, .inr (7, [.int 0, .int 0, .int (vI σ.go), .ref hbu, .int (nI (σ.buf.length + 20)), .int (nI σ.nd), .ref hgo, .ref hfi, .ref hma, .ref hln, .ref hau, .ref hsu, .ref hrow, .ref hmade, .int z_madeSize, .ref hbase, .int z_baseSize, .ref htx9, .int z_textSize, .int σ.stp, .ref hot, .int z_otherSize, .ref hpc, .int z_pieceSize, .int z_at, .int z_end, .int z_value])), (hbu, .inl (cB, 256, .inl (ff20))), (hgo, .inl (cZ, 8, .inl (fg))), (hfi, .inl (cI, 8, .inl (ff))), (hma, .inl (cI, 8, .inl (fm))), (hln, .inl (cL, 512, .inl (fl))), (hau, .inl (cI, 512, .inl (fa))), (hsu, .inl (cI, 512, .inl (fs))), (hrow, .inl (cB, 16384, .inl (fr))), (hmade, .inl (cB, 256, .inl (f))), (hbase, .inl (cB, 256, .inl (fb))), (htx9, .inl (cB, 256, .inl (ft))), (hot, .inl (cB, 256, .inl (fo))), (hpc, .inl (cB, 600, .inl (fp)))]) [13, 0, 1, 2, 3, 4, 5, 6, 7, 8, 9, 10, 11, 12] (by decide) rfl
      have hK9 := hK.sub (tys' := mT cB cI cL cZ) [0, 1, 2, 3] rfl
      exact W.zret (v := 1) (ty := .boolean) hx hb hr rfl (fun t ht hW => ⟨⟨1, (), rfl, (fun _ => (congrArg (fun z => z.2.2) hσ).symm), ⟨⟨hbu, hgo, hfi, hma, hln, hau, hsu, hrow, hmade, hbase, htx9, hot, hpc, 0, 0, (vI σ.go), (nI (σ.buf.length + 20)), (nI σ.nd), z_madeSize, z_baseSize, z_textSize, σ.stp, z_otherSize, z_pieceSize, z_at, z_end, z_value, ff20, fg, ff, fm, fl, fa, fs, fr, f, fb, ft, fo, fp⟩, ⟨(by rw [hσ]; exact (mOk.mk hm_dw hm_la (show nI (σ.buf.length + 20) = nI (σ.buf ++ (fb4 a1 ++ (fb4 a2 ++ (fb4 a3 ++ (fb4 a4 ++ fb4 a5))))).length from by congr 1; simp [fb4]) (show tx (σ.buf ++ (fb4 a1 ++ (fb4 a2 ++ (fb4 a3 ++ (fb4 a4 ++ fb4 a5))))) (σ.buf ++ (fb4 a1 ++ (fb4 a2 ++ (fb4 a3 ++ (fb4 a4 ++ fb4 a5))))).length ff20 from by have h9 := ht20; simp only [List.append_assoc, List.cons_append, List.nil_append] at h9; have h8 : tx (σ.buf ++ (fb4 a1 ++ (fb4 a2 ++ (fb4 a3 ++ (fb4 a4 ++ fb4 a5))))) (σ.buf.length + 20) ff20 := h9; rw [h8.1]; exact h8) hm_nd hm_gn hm_fm hm_ln hm_rw hm_au hm_tq hm_st)), (congrArg (fun z => z.2.1) hσ).symm⟩, by rw [ht]; exact hP9, va_K.moved hW.alike hK9, hD9⟩⟩, hS.F ht⟩) hS.2.2 d_O_feed_121
    · have hfu : 256 < σ.buf.length + 20 := (by rcases Nat.lt_or_ge 256 (σ.buf.length + 20) with z | z; exact z; exact absurd (nI_le (b := 256) z (by decide)) c_4)
      refine lv_iconst (v := 0) hx hb d_O_feed_21 (by decide) ?_
      have hσ : (sFeed σ a1 a2 a3 a4 a5) = (σ, 0, 0) := (by unfold sFeed; rw [if_neg (by rw [hdw]; decide), if_pos hfu])
      have hP9 := hP.sub (ws' := [(h0, .inr (7, [.int 0, .int 0, .int (vI σ.go), .ref hbu, .int (nI σ.buf.length), .int (nI σ.nd), .ref hgo, .ref hfi, .ref hma, .ref hln, .ref hau, .ref hsu, .ref hrow, .ref hmade, .int z_madeSize, .ref hbase, .int z_baseSize, .ref htx9, .int z_textSize, .int σ.stp, .ref hot, .int z_otherSize, .ref hpc, .int z_pieceSize, .int z_at, .int z_end, .int z_value])), (hbu, .inl (cB, 256, .inl (fbu))), (hgo, .inl (cZ, 8, .inl (fg))), (hfi, .inl (cI, 8, .inl (ff))), (hma, .inl (cI, 8, .inl (fm))), (hln, .inl (cL, 512, .inl (fl))), (hau, .inl (cI, 512, .inl (fa))), (hsu, .inl (cI, 512, .inl (fs))), (hrow, .inl (cB, 16384, .inl (fr))), (hmade, .inl (cB, 256, .inl (f))), (hbase, .inl (cB, 256, .inl (fb))), (htx9, .inl (cB, 256, .inl (ft))), (hot, .inl (cB, 256, .inl (fo))), (hpc, .inl (cB, 600, .inl (fp)))]) [13, 0, 1, 2, 3, 4, 5, 6, 7, 8, 9, 10, 11, 12] rfl
      have hD9 := hD.sub (ws' := [(h0, .inr (7, [.int 0, .int 0, .int (vI σ.go), .ref hbu, .int (nI σ.buf.length), .int (nI σ.nd), .ref hgo, .ref hfi, .ref hma, .ref hln, .ref hau, .ref hsu, .ref hrow, .ref hmade, .int z_madeSize, .ref hbase, .int z_baseSize, .ref htx9, .int z_textSize, .int σ.stp, .ref hot, .int z_otherSize, .ref hpc, .int z_pieceSize, .int z_at, .int z_end, .int z_value])), (hbu, .inl (cB, 256, .inl (fbu))), (hgo, .inl (cZ, 8, .inl (fg))), (hfi, .inl (cI, 8, .inl (ff))), (hma, .inl (cI, 8, .inl (fm))), (hln, .inl (cL, 512, .inl (fl))), (hau, .inl (cI, 512, .inl (fa))), (hsu, .inl (cI, 512, .inl (fs))), (hrow, .inl (cB, 16384, .inl (fr))), (hmade, .inl (cB, 256, .inl (f))), (hbase, .inl (cB, 256, .inl (fb))), (htx9, .inl (cB, 256, .inl (ft))), (hot, .inl (cB, 256, .inl (fo))), (hpc, .inl (cB, 600, .inl (fp)))]) [13, 0, 1, 2, 3, 4, 5, 6, 7, 8, 9, 10, 11, 12] (by decide) rfl
      have hK9 := hK.sub (tys' := mT cB cI cL cZ) [0, 1, 2, 3] rfl
      exact W.zret (v := 0) (ty := .boolean) hx hb hr rfl (fun t ht hW => ⟨⟨0, (), rfl, (fun _ => (congrArg (fun z => z.2.2) hσ).symm), ⟨⟨hbu, hgo, hfi, hma, hln, hau, hsu, hrow, hmade, hbase, htx9, hot, hpc, 0, 0, (vI σ.go), (nI σ.buf.length), (nI σ.nd), z_madeSize, z_baseSize, z_textSize, σ.stp, z_otherSize, z_pieceSize, z_at, z_end, z_value, fbu, fg, ff, fm, fl, fa, fs, fr, f, fb, ft, fo, fp⟩, ⟨(by rw [hσ]; exact (mOk.mk hm_dw hm_la hm_sz hm_bf hm_nd hm_gn hm_fm hm_ln hm_rw hm_au hm_tq hm_st)), (congrArg (fun z => z.2.1) hσ).symm⟩, by rw [ht]; exact hP9, va_K.moved hW.alike hK9, hD9⟩⟩, hS.F ht⟩) hS.2.2 d_O_feed_22
  · obtain rfl : z_down = 1 := (by have h9 := hm_dw; rw [hdw] at h9; exact h9)
    refine lv_aload_n hx hb d_O_feed_0 rfl (lv_at hl 0 rfl) ?_
    refine lv_iconst (v := 1) hx hb d_O_feed_1 (by decide) ?_
    have hPc := hP.sub (ws' := [(h0, .inr (7, [.int z_thrown, .int 1, .int (vI σ.go), .ref hbu, .int (nI σ.buf.length), .int (nI σ.nd), .ref hgo, .ref hfi, .ref hma, .ref hln, .ref hau, .ref hsu, .ref hrow, .ref hmade, .int z_madeSize, .ref hbase, .int z_baseSize, .ref htx9, .int z_textSize, .int σ.stp, .ref hot, .int z_otherSize, .ref hpc, .int z_pieceSize, .int z_at, .int z_end, .int z_value]))]) [0] rfl
    have hKc := hK.sub (tys' := []) [] rfl
    have hDc := hD.sub (ws' := [(h0, .inr (7, [.int z_thrown, .int 1, .int (vI σ.go), .ref hbu, .int (nI σ.buf.length), .int (nI σ.nd), .ref hgo, .ref hfi, .ref hma, .ref hln, .ref hau, .ref hsu, .ref hrow, .ref hmade, .int z_madeSize, .ref hbase, .int z_baseSize, .ref htx9, .int z_textSize, .int σ.stp, .ref hot, .int z_otherSize, .ref hpc, .int z_pieceSize, .int z_at, .int z_end, .int z_value]))]) [0] (by decide) rfl
    have hFc := va_free (wc := [(h0, .inr (7, [.int z_thrown, .int 1, .int (vI σ.go), .ref hbu, .int (nI σ.buf.length), .int (nI σ.nd), .ref hgo, .ref hfi, .ref hma, .ref hln, .ref hau, .ref hsu, .ref hrow, .ref hmade, .int z_madeSize, .ref hbase, .int z_baseSize, .ref htx9, .int z_textSize, .int σ.stp, .ref hot, .int z_otherSize, .ref hpc, .int z_pieceSize, .int z_at, .int z_end, .int z_value]))]) hD hS hA [0] rfl
    refine va_calli (va_runV (As := [.int 1]) (rest := []) ⟨hx, hb, hml, hown, hw0⟩ (o_runs_D l dC dI s.heap.size h0 z_thrown (vI σ.go) (.ref hbu) (nI σ.buf.length) (nI σ.nd) (.ref hgo) (.ref hfi) (.ref hma) (.ref hln) (.ref hau) (.ref hsu) (.ref hrow) (.ref hmade) z_madeSize (.ref hbase) z_baseSize (.ref htx9) z_textSize σ.stp (.ref hot) z_otherSize (.ref hpc) z_pieceSize z_at z_end z_value 1) (cwV 1 hw0 (gd_Vm wm_358 wm_359 wm_360 wm_243 wm_361) rfl rfl rfl (by decide +kernel) ⟨by decide +kernel, by decide +kernel⟩) (prV_E hPc hKc hDc hN (va_recv hKc hPc (ci := 7) (q0 := 0) rfl rfl)) rfl rfl hl.1 rfl (lv_room (Nat.le_of_ble_eq_true rfl)) d_O_feed_2 ⟨by decide +kernel, by decide +kernel⟩) hS (fun q _ h => hFc q h) hFc (fun r_105 u t H1 locs ht hvm hw hB hz1 hk1 hS => ?_)
    obtain ⟨hP1, hK1, hD1⟩ := hB
    rw [ht] at hP1
    have hK1 := va_K.moved hvm.symm hK1
    try dsimp only at hw
    obtain ⟨hP, hD⟩ := va_join (wr := [(hbu, .inl (cB, 256, .inl (fbu))), (hgo, .inl (cZ, 8, .inl (fg))), (hfi, .inl (cI, 8, .inl (ff))), (hma, .inl (cI, 8, .inl (fm))), (hln, .inl (cL, 512, .inl (fl))), (hau, .inl (cI, 512, .inl (fa))), (hsu, .inl (cI, 512, .inl (fs))), (hrow, .inl (cB, 16384, .inl (fr))), (hmade, .inl (cB, 256, .inl (f))), (hbase, .inl (cB, 256, .inl (fb))), (htx9, .inl (cB, 256, .inl (ft))), (hot, .inl (cB, 256, .inl (fo))), (hpc, .inl (cB, 600, .inl (fp)))]) (w1 := [(h0, .inr (7, [.int 1, .int 1, .int (vI σ.go), .ref hbu, .int (nI σ.buf.length), .int (nI σ.nd), .ref hgo, .ref hfi, .ref hma, .ref hln, .ref hau, .ref hsu, .ref hrow, .ref hmade, .int z_madeSize, .ref hbase, .int z_baseSize, .ref htx9, .int z_textSize, .int σ.stp, .ref hot, .int z_otherSize, .ref hpc, .int z_pieceSize, .int z_at, .int z_end, .int z_value]))]) hP hD [0] [1, 2, 3, 4, 5, 6, 7, 8, 9, 10, 11, 12, 13] rfl rfl (by decide) (by decide) hk1 hFc hP1 hD1
    generalize H1 = H at hP hS ⊢
    replace hP : va_P (dC, dI) vwCl [(hbu, .inl (cB, 256, .inl (fbu))), (hgo, .inl (cZ, 8, .inl (fg))), (hfi, .inl (cI, 8, .inl (ff))), (hma, .inl (cI, 8, .inl (fm))), (hln, .inl (cL, 512, .inl (fl))), (hau, .inl (cI, 512, .inl (fa))), (hsu, .inl (cI, 512, .inl (fs))), (hrow, .inl (cB, 16384, .inl (fr))), (hmade, .inl (cB, 256, .inl (f))), (hbase, .inl (cB, 256, .inl (fb))), (htx9, .inl (cB, 256, .inl (ft))), (hot, .inl (cB, 256, .inl (fo))), (hpc, .inl (cB, 600, .inl (fp))), (h0, .inr (7, [.int 1, .int 1, .int (vI σ.go), .ref hbu, .int (nI σ.buf.length), .int (nI σ.nd), .ref hgo, .ref hfi, .ref hma, .ref hln, .ref hau, .ref hsu, .ref hrow, .ref hmade, .int z_madeSize, .ref hbase, .int z_baseSize, .ref htx9, .int z_textSize, .int σ.stp, .ref hot, .int z_otherSize, .ref hpc, .int z_pieceSize, .int z_at, .int z_end, .int z_value]))] H := hP
    replace hD : va_D A [(hbu, .inl (cB, 256, .inl (fbu))), (hgo, .inl (cZ, 8, .inl (fg))), (hfi, .inl (cI, 8, .inl (ff))), (hma, .inl (cI, 8, .inl (fm))), (hln, .inl (cL, 512, .inl (fl))), (hau, .inl (cI, 512, .inl (fa))), (hsu, .inl (cI, 512, .inl (fs))), (hrow, .inl (cB, 16384, .inl (fr))), (hmade, .inl (cB, 256, .inl (f))), (hbase, .inl (cB, 256, .inl (fb))), (htx9, .inl (cB, 256, .inl (ft))), (hot, .inl (cB, 256, .inl (fo))), (hpc, .inl (cB, 600, .inl (fp))), (h0, .inr (7, [.int 1, .int 1, .int (vI σ.go), .ref hbu, .int (nI σ.buf.length), .int (nI σ.nd), .ref hgo, .ref hfi, .ref hma, .ref hln, .ref hau, .ref hsu, .ref hrow, .ref hmade, .int z_madeSize, .ref hbase, .int z_baseSize, .ref htx9, .int z_textSize, .int σ.stp, .ref hot, .int z_otherSize, .ref hpc, .int z_pieceSize, .int z_at, .int z_end, .int z_value]))] := hD
    replace hK : va_K (dC, dI) vwCl [(cB, .byte), (cI, .int), (cL, .short), (cZ, .boolean)] s := hK
    obtain rfl : r_105 = 0 := hw
    refine lv_if_eq (tgt := 21) hx hb d_O_feed_5 (by decide) (fun _ => ?_) (fun h9 => absurd h9 (by decide +kernel))
    refine lv_iconst (v := 0) hx hb d_O_feed_21 (by decide) ?_
    have hσ : (sFeed σ a1 a2 a3 a4 a5) = (σ, 1, 0) := (by unfold sFeed; rw [if_pos hdw])
    have hP9 := hP.sub (ws' := [(h0, .inr (7, [.int 1, .int 1, .int (vI σ.go), .ref hbu, .int (nI σ.buf.length), .int (nI σ.nd), .ref hgo, .ref hfi, .ref hma, .ref hln, .ref hau, .ref hsu, .ref hrow, .ref hmade, .int z_madeSize, .ref hbase, .int z_baseSize, .ref htx9, .int z_textSize, .int σ.stp, .ref hot, .int z_otherSize, .ref hpc, .int z_pieceSize, .int z_at, .int z_end, .int z_value])), (hbu, .inl (cB, 256, .inl (fbu))), (hgo, .inl (cZ, 8, .inl (fg))), (hfi, .inl (cI, 8, .inl (ff))), (hma, .inl (cI, 8, .inl (fm))), (hln, .inl (cL, 512, .inl (fl))), (hau, .inl (cI, 512, .inl (fa))), (hsu, .inl (cI, 512, .inl (fs))), (hrow, .inl (cB, 16384, .inl (fr))), (hmade, .inl (cB, 256, .inl (f))), (hbase, .inl (cB, 256, .inl (fb))), (htx9, .inl (cB, 256, .inl (ft))), (hot, .inl (cB, 256, .inl (fo))), (hpc, .inl (cB, 600, .inl (fp)))]) [13, 0, 1, 2, 3, 4, 5, 6, 7, 8, 9, 10, 11, 12] rfl
    have hD9 := hD.sub (ws' := [(h0, .inr (7, [.int 1, .int 1, .int (vI σ.go), .ref hbu, .int (nI σ.buf.length), .int (nI σ.nd), .ref hgo, .ref hfi, .ref hma, .ref hln, .ref hau, .ref hsu, .ref hrow, .ref hmade, .int z_madeSize, .ref hbase, .int z_baseSize, .ref htx9, .int z_textSize, .int σ.stp, .ref hot, .int z_otherSize, .ref hpc, .int z_pieceSize, .int z_at, .int z_end, .int z_value])), (hbu, .inl (cB, 256, .inl (fbu))), (hgo, .inl (cZ, 8, .inl (fg))), (hfi, .inl (cI, 8, .inl (ff))), (hma, .inl (cI, 8, .inl (fm))), (hln, .inl (cL, 512, .inl (fl))), (hau, .inl (cI, 512, .inl (fa))), (hsu, .inl (cI, 512, .inl (fs))), (hrow, .inl (cB, 16384, .inl (fr))), (hmade, .inl (cB, 256, .inl (f))), (hbase, .inl (cB, 256, .inl (fb))), (htx9, .inl (cB, 256, .inl (ft))), (hot, .inl (cB, 256, .inl (fo))), (hpc, .inl (cB, 600, .inl (fp)))]) [13, 0, 1, 2, 3, 4, 5, 6, 7, 8, 9, 10, 11, 12] (by decide) rfl
    have hK9 := hK.sub (tys' := mT cB cI cL cZ) [0, 1, 2, 3] rfl
    exact W.zret (v := 0) (ty := .boolean) hx hb hr rfl (fun t ht hW => ⟨⟨0, (), rfl, (fun _ => (congrArg (fun z => z.2.2) hσ).symm), ⟨⟨hbu, hgo, hfi, hma, hln, hau, hsu, hrow, hmade, hbase, htx9, hot, hpc, 1, 1, (vI σ.go), (nI σ.buf.length), (nI σ.nd), z_madeSize, z_baseSize, z_textSize, σ.stp, z_otherSize, z_pieceSize, z_at, z_end, z_value, fbu, fg, ff, fm, fl, fa, fs, fr, f, fb, ft, fo, fp⟩, ⟨(by rw [hσ]; exact (mOk.mk hm_dw hm_la hm_sz hm_bf hm_nd hm_gn hm_fm hm_ln hm_rw hm_au hm_tq hm_st)), (congrArg (fun z => z.2.1) hσ).symm⟩, by rw [ht]; exact hP9, va_K.moved hW.alike hK9, hD9⟩⟩, hS.F ht⟩) hS.2.2 d_O_feed_22
end
section
set_option maxHeartbeats 4000000 in
set_option maxRecDepth 100000 in
theorem lo_fcp {p : Program} {l : Launch} {e : Env} {s : State} {m : MethodId} {args : Array Value} {below : List Frame} {meth : Method} {c : Code} {dC : Nat → ClassId} {dI : Nat → Nat → Nat} {A : Nat → Prop} {Q : State → Prop} {R : Room} (h0 : Nat) (i_thrown : Int32) (i_down : Int32) (i_lasts : Int32) (v_buffer : Value) (i_size : Int32) (i_documents : Int32) (v_gone : Value) (v_first : Value) (v_many : Value) (v_lengths : Value) (v_authors : Value) (v_sums : Value) (v_row : Value) (v_base : Value) (i_baseSize : Int32) (i_textSize : Int32) (i_textSteps : Int32) (v_other : Value) (i_otherSize : Int32) (v_piece : Value) (i_pieceSize : Int32) (i_at : Int32) (i_end : Int32) (i_value : Int32) (htx9 : Nat) (hmade : Nat) (cB : ClassId) (k : Nat) (f : Nat → Int32) (Y : List Int32) (pl : va_W) (d9 : Nat) (r9 : Nat) (hY : tx Y k f) (hk : k ≤ 256)
    (hx : p.tables.exec = Jvm.exec) (hb : c.code = prog_9_method_28_code) (hml : c.maxLocals = 4) (hown : s.vm.findClass R_O = some m.cls) (hw0 : ∀ w ∈ w0, w.before args s = true) (hN : nw_ok s) (hK : va_K (dC, dI) vwCl [(cB, .byte)] s) (hA : ∀ q : Nat, s.heap.size ≤ q → A q)
    (kk : ∀ (ft : Nat → Int32), (tx (Y.take k) k ft) → ∀ (H : Heap) (locs : List Loc), va_P (dC, dI) vwCl (([(h0, .inr (7, [.int i_thrown, .int i_down, .int i_lasts, v_buffer, .int i_size, .int i_documents, v_gone, v_first, v_many, v_lengths, v_authors, v_sums, v_row, .ref hmade, .int (nI k), v_base, .int i_baseSize, .ref htx9, .int i_textSize, .int i_textSteps, v_other, .int i_otherSize, v_piece, .int i_pieceSize, .int i_at, .int i_end, .int i_value])), (htx9, .inl (cB, 256, .inl (ft))), (hmade, .inl (cB, 256, .inl (f)))] : va_W) ++ pl) H → va_D A (([(h0, .inr (7, [.int i_thrown, .int i_down, .int i_lasts, v_buffer, .int i_size, .int i_documents, v_gone, v_first, v_many, v_lengths, v_authors, v_sums, v_row, .ref hmade, .int (nI k), v_base, .int i_baseSize, .ref htx9, .int i_textSize, .int i_textSteps, v_other, .int i_otherSize, v_piece, .int i_pieceSize, .int i_at, .int i_end, .int i_value])), (htx9, .inl (cB, 256, .inl (ft))), (hmade, .inl (cB, 256, .inl (f)))] : va_W) ++ pl) → va_S A s.heap H locs → ∀ ls : Array Slot, lv_has ls 4 [(3, .int (nI k)), (0, .ref h0), (1, .int (nI d9)), (2, .int (nI r9))] → W p l e R s m args below meth c H locs 0 0 Q (F0 m 70 ls [])) :
    ∀ (n j : Nat), j ≤ k → k < j + n → ∀ (ft : Nat → Int32), (tx (Y.take j) j ft) → ∀ (H : Heap) (locs : List Loc), va_P (dC, dI) vwCl (([(h0, .inr (7, [.int i_thrown, .int i_down, .int i_lasts, v_buffer, .int i_size, .int i_documents, v_gone, v_first, v_many, v_lengths, v_authors, v_sums, v_row, .ref hmade, .int (nI k), v_base, .int i_baseSize, .ref htx9, .int i_textSize, .int i_textSteps, v_other, .int i_otherSize, v_piece, .int i_pieceSize, .int i_at, .int i_end, .int i_value])), (htx9, .inl (cB, 256, .inl (ft))), (hmade, .inl (cB, 256, .inl (f)))] : va_W) ++ pl) H → va_D A (([(h0, .inr (7, [.int i_thrown, .int i_down, .int i_lasts, v_buffer, .int i_size, .int i_documents, v_gone, v_first, v_many, v_lengths, v_authors, v_sums, v_row, .ref hmade, .int (nI k), v_base, .int i_baseSize, .ref htx9, .int i_textSize, .int i_textSteps, v_other, .int i_otherSize, v_piece, .int i_pieceSize, .int i_at, .int i_end, .int i_value])), (htx9, .inl (cB, 256, .inl (ft))), (hmade, .inl (cB, 256, .inl (f)))] : va_W) ++ pl) → va_S A s.heap H locs → ∀ ls : Array Slot, lv_has ls 4 [(3, .int (nI j)), (0, .ref h0), (1, .int (nI d9)), (2, .int (nI r9))] → W p l e R s m args below meth c H locs 0 0 Q (F0 m 44 ls []) := by
  intro n
  induction n with
  | zero => intro j h1 h2; exact absurd h2 (by omega)
  | succ n ih =>
    intro j hj hn ft hf0 H locs hP hD hS ls hl
    refine lv_iload_n hx hb d_O_fetch_44 rfl (lv_at hl 0 rfl) ?_
    refine lv_aload_n hx hb d_O_fetch_45 rfl (lv_at hl 1 rfl) ?_
    refine va_get (D := (dC, dI)) (ci := 7) (v := .int (nI k)) (C := R_O) (T := F_O) (N := 27) hx hb hw0 in_O hown hK hP 0 rfl rfl 14 (by decide) (hw0 (.fieldLink R_O 113 "TextKeeperModel" "madeSize" "I") wm_246) (fun _ h9 => h9) rfl d_O_fetch_46 ?_
    refine lv_icmp_ge (tgt := 70) hx hb d_O_fetch_49 (by decide) (fun c_1 => ?_) (fun c_1 => ?_)
    · obtain rfl : j = k := x_geN (by omega) hj c_1
      exact kk ft hf0 _ _ hP hD hS ls (lv_sub hl [0, 1, 2, 3] rfl)
    · have hlt : j < k := x_ltN (by omega) hj c_1
      refine lv_aload_n hx hb d_O_fetch_52 rfl (lv_at hl 1 rfl) ?_
      refine va_get (D := (dC, dI)) (ci := 7) (v := .ref htx9) (C := R_O) (T := F_O) (N := 27) hx hb hw0 in_O hown hK hP 0 rfl rfl 17 (by decide) (hw0 (.fieldLink R_O 47 "TextKeeperModel" "text" "[B") wm_364) (fun _ h9 => h9) rfl d_O_fetch_53 ?_
      refine lv_iload_n hx hb d_O_fetch_56 rfl (lv_at hl 0 rfl) ?_
      refine lv_aload_n hx hb d_O_fetch_57 rfl (lv_at hl 1 rfl) ?_
      refine va_get (D := (dC, dI)) (ci := 7) (v := .ref hmade) (C := R_O) (T := F_O) (N := 27) hx hb hw0 in_O hown hK hP 0 rfl rfl 13 (by decide) (hw0 (.fieldLink R_O 41 "TextKeeperModel" "made" "[B") wm_248) (fun _ h9 => h9) rfl d_O_fetch_58 ?_
      refine lv_iload_n hx hb d_O_fetch_61 rfl (lv_at hl 0 rfl) ?_
      refine va_bald hx hb hK hP 2 0 rfl rfl (vp_in_nI (by omega) (by decide)) d_O_fetch_62 ?_
      refine lv_topi (fun x_2 ex_2 => ?_)
      refine va_bast hx hb hK hP hD hS 1 0 rfl rfl (vp_in_nI (by omega) (by decide)) d_O_fetch_63 (fun H locs hP hD hS => ?_)
      replace hP : va_P (dC, dI) vwCl (([(h0, .inr (7, [.int i_thrown, .int i_down, .int i_lasts, v_buffer, .int i_size, .int i_documents, v_gone, v_first, v_many, v_lengths, v_authors, v_sums, v_row, .ref hmade, .int (nI k), v_base, .int i_baseSize, .ref htx9, .int i_textSize, .int i_textSteps, v_other, .int i_otherSize, v_piece, .int i_pieceSize, .int i_at, .int i_end, .int i_value])), (htx9, .inl (cB, 256, .inl (upd (ft) (Int32.toNatClampNeg (nI j)) (vp_nar .byte (x_2))))), (hmade, .inl (cB, 256, .inl (f)))] : va_W) ++ pl) H := hP
      replace hD : va_D A (([(h0, .inr (7, [.int i_thrown, .int i_down, .int i_lasts, v_buffer, .int i_size, .int i_documents, v_gone, v_first, v_many, v_lengths, v_authors, v_sums, v_row, .ref hmade, .int (nI k), v_base, .int i_baseSize, .ref htx9, .int i_textSize, .int i_textSteps, v_other, .int i_otherSize, v_piece, .int i_pieceSize, .int i_at, .int i_end, .int i_value])), (htx9, .inl (cB, 256, .inl (upd (ft) (Int32.toNatClampNeg (nI j)) (vp_nar .byte (x_2))))), (hmade, .inl (cB, 256, .inl (f)))] : va_W) ++ pl) := hD
      have eS : upd (ft) (Int32.toNatClampNeg (nI j)) (vp_nar .byte (x_2)) = upd ft j (nbb x_2) := by rw [nI_clamp (by omega)]; exact congrArg (upd ft j) (vp_nar_byte x_2)
      rw [eS] at hP hD
      refine lv_iinc (v := nI (j + 1)) (lv' := [(3, .int (nI (j + 1))), (0, .ref h0), (1, .int (nI d9)), (2, .int (nI r9))]) hx hb d_O_fetch_64 hl (k := 0) rfl (nI_1 j) (by decide) rfl (fun ls hl => ?_)
      refine lv_goto (tgt := 44) hx hb d_O_fetch_67 (by decide) ?_
      exact ih (j + 1) hlt (by omega) _ (fc_step hY hk hlt ex_2 hf0) _ _ hP hD hS ls (lv_sub hl [0, 1, 2, 3] rfl)
set_option maxHeartbeats 4000000 in
set_option maxRecDepth 100000 in
theorem lo_stp {p : Program} {l : Launch} {e : Env} {s : State} {m : MethodId} {args : Array Value} {below : List Frame} {meth : Method} {c : Code} {dC : Nat → ClassId} {dI : Nat → Nat → Nat} {A : Nat → Prop} {Q : State → Prop} {R : Room} (h0 : Nat) (i_thrown : Int32) (i_down : Int32) (i_lasts : Int32) (v_buffer : Value) (i_size : Int32) (i_documents : Int32) (v_gone : Value) (v_first : Value) (v_many : Value) (v_lengths : Value) (v_authors : Value) (v_sums : Value) (v_row : Value) (v_base : Value) (i_baseSize : Int32) (i_textSize : Int32) (v_other : Value) (i_otherSize : Int32) (v_piece : Value) (i_pieceSize : Int32) (i_at : Int32) (i_end : Int32) (i_value : Int32) (htx9 : Nat) (hmade : Nat) (cB : ClassId) (k : Nat) (f : Nat → Int32) (pl : va_W) (d9 : Nat) (r9 : Nat) (ft : Nat → Int32) (hr9 : r9 < 64)
    (hx : p.tables.exec = Jvm.exec) (hb : c.code = prog_9_method_28_code) (hml : c.maxLocals = 4) (hown : s.vm.findClass R_O = some m.cls) (hw0 : ∀ w ∈ w0, w.before args s = true) (hN : nw_ok s) (hK : va_K (dC, dI) vwCl [(cB, .byte)] s) (hA : ∀ q : Nat, s.heap.size ≤ q → A q)
    
    (kk2 : ∀ (j : Nat), (j = bct 6 r9) → ∀ (H : Heap) (locs : List Loc), va_P (dC, dI) vwCl (([(h0, .inr (7, [.int i_thrown, .int i_down, .int i_lasts, v_buffer, .int i_size, .int i_documents, v_gone, v_first, v_many, v_lengths, v_authors, v_sums, v_row, .ref hmade, .int (nI k), v_base, .int i_baseSize, .ref htx9, .int i_textSize, .int (nI j), v_other, .int i_otherSize, v_piece, .int i_pieceSize, .int i_at, .int i_end, .int i_value])), (htx9, .inl (cB, 256, .inl (ft))), (hmade, .inl (cB, 256, .inl (f)))] : va_W) ++ pl) H → va_D A (([(h0, .inr (7, [.int i_thrown, .int i_down, .int i_lasts, v_buffer, .int i_size, .int i_documents, v_gone, v_first, v_many, v_lengths, v_authors, v_sums, v_row, .ref hmade, .int (nI k), v_base, .int i_baseSize, .ref htx9, .int i_textSize, .int (nI j), v_other, .int i_otherSize, v_piece, .int i_pieceSize, .int i_at, .int i_end, .int i_value])), (htx9, .inl (cB, 256, .inl (ft))), (hmade, .inl (cB, 256, .inl (f)))] : va_W) ++ pl) → va_S A s.heap H locs → ∀ ls : Array Slot, lv_has ls 4 [(3, .int (nI 0)), (0, .ref h0), (1, .int (nI d9)), (2, .int (nI r9))] → W p l e R s m args below meth c H locs 0 0 Q (F0 m 108 ls [])) :
    ∀ (n j : Nat), j ≤ 6 → 6 < j + n → ∀ (k9 : Nat), (k9 < 64) → (bct 6 k9 + j = bct 6 r9) → ∀ (H : Heap) (locs : List Loc), va_P (dC, dI) vwCl (([(h0, .inr (7, [.int i_thrown, .int i_down, .int i_lasts, v_buffer, .int i_size, .int i_documents, v_gone, v_first, v_many, v_lengths, v_authors, v_sums, v_row, .ref hmade, .int (nI k), v_base, .int i_baseSize, .ref htx9, .int i_textSize, .int (nI j), v_other, .int i_otherSize, v_piece, .int i_pieceSize, .int i_at, .int i_end, .int i_value])), (htx9, .inl (cB, 256, .inl (ft))), (hmade, .inl (cB, 256, .inl (f)))] : va_W) ++ pl) H → va_D A (([(h0, .inr (7, [.int i_thrown, .int i_down, .int i_lasts, v_buffer, .int i_size, .int i_documents, v_gone, v_first, v_many, v_lengths, v_authors, v_sums, v_row, .ref hmade, .int (nI k), v_base, .int i_baseSize, .ref htx9, .int i_textSize, .int (nI j), v_other, .int i_otherSize, v_piece, .int i_pieceSize, .int i_at, .int i_end, .int i_value])), (htx9, .inl (cB, 256, .inl (ft))), (hmade, .inl (cB, 256, .inl (f)))] : va_W) ++ pl) → va_S A s.heap H locs → ∀ ls : Array Slot, lv_has ls 4 [(3, .int (nI k9)), (0, .ref h0), (1, .int (nI d9)), (2, .int (nI r9))] → W p l e R s m args below meth c H locs 0 0 Q (F0 m 85 ls []) := by
  intro n
  induction n with
  | zero => intro j h1 h2; exact absurd h2 (by omega)
  | succ n ih =>
    intro j hj hn k9 hf0 hf1 H locs hP hD hS ls hl
    refine lv_iload_n hx hb d_O_fetch_85 rfl (lv_at hl 0 rfl) ?_
    refine lv_if_le (tgt := 108) hx hb d_O_fetch_86 (by decide) (fun c_1 => ?_) (fun c_1 => ?_)
    · obtain rfl : k9 = 0 := (by rcases Nat.eq_zero_or_pos k9 with z | z; exact z; exact absurd c_1 (nI_nle z (by omega)))
      exact kk2 j (by have h8 : bct 6 0 = 0 := rfl; omega) _ _ hP hD hS ls (lv_sub hl [0, 1, 2, 3] rfl)
    · have hk0 : 0 < k9 := (by rcases Nat.eq_zero_or_pos k9 with z | z; exact absurd (by rw [z]; decide) c_1; exact z); have hb6 := bct_s k9 hf0 hk0; have hb7 := bct_le r9 hr9
      refine lv_aload_n hx hb d_O_fetch_89 rfl (lv_at hl 1 rfl) ?_
      refine lv_dup hx hb d_O_fetch_90 rfl ?_
      refine va_get (D := (dC, dI)) (ci := 7) (v := .int (nI j)) (C := R_O) (T := F_O) (N := 27) hx hb hw0 in_O hown hK hP 0 rfl rfl 19 (by decide) (hw0 (.fieldLink R_O 53 "TextKeeperModel" "textSteps" "I") wm_362) (fun _ h9 => h9) rfl d_O_fetch_91 ?_
      refine lv_iconst (v := 1) hx hb d_O_fetch_94 (by decide) ?_
      refine lv_iadd hx hb d_O_fetch_95 ?_
      refine lv_topi (fun x_2 ex_2 => ?_)
      obtain rfl : x_2 = (nI (j + 1)) := by rw [ex_2]; exact nI_1 j
      clear ex_2
      refine va_put (D := (dC, dI)) (ci := 7) (v := .int (nI (j + 1))) (ty := .int) (C := R_O) (T := F_O) (N := 27) hx hb hw0 in_O ft_O tk_O nk_O hown hK hP hD hS 0 rfl rfl 19 (by decide) (hw0 (.fieldLink R_O 53 "TextKeeperModel" "textSteps" "I") wm_362) (fun _ h9 => h9) rfl (by decide +kernel) rfl rfl (Nat.le_of_ble_eq_true rfl) d_O_fetch_96 (fun H locs hP hD hS => ?_)
      replace hP : va_P (dC, dI) vwCl (([(h0, .inr (7, [.int i_thrown, .int i_down, .int i_lasts, v_buffer, .int i_size, .int i_documents, v_gone, v_first, v_many, v_lengths, v_authors, v_sums, v_row, .ref hmade, .int (nI k), v_base, .int i_baseSize, .ref htx9, .int i_textSize, .int (nI (j + 1)), v_other, .int i_otherSize, v_piece, .int i_pieceSize, .int i_at, .int i_end, .int i_value])), (htx9, .inl (cB, 256, .inl (ft))), (hmade, .inl (cB, 256, .inl (f)))] : va_W) ++ pl) H := hP
      replace hD : va_D A (([(h0, .inr (7, [.int i_thrown, .int i_down, .int i_lasts, v_buffer, .int i_size, .int i_documents, v_gone, v_first, v_many, v_lengths, v_authors, v_sums, v_row, .ref hmade, .int (nI k), v_base, .int i_baseSize, .ref htx9, .int i_textSize, .int (nI (j + 1)), v_other, .int i_otherSize, v_piece, .int i_pieceSize, .int i_at, .int i_end, .int i_value])), (htx9, .inl (cB, 256, .inl (ft))), (hmade, .inl (cB, 256, .inl (f)))] : va_W) ++ pl) := hD
      refine lv_iload_n hx hb d_O_fetch_99 rfl (lv_at hl 0 rfl) ?_
      refine lv_iload_n hx hb d_O_fetch_100 rfl (lv_at hl 0 rfl) ?_
      refine lv_iconst (v := 1) hx hb d_O_fetch_101 (by decide) ?_
      refine lv_isub hx hb d_O_fetch_102 ?_
      refine lv_topi (fun x_3 ex_3 => ?_)
      refine lv_iand hx hb d_O_fetch_103 ?_
      refine lv_topi (fun x_4 ex_4 => ?_)
      obtain rfl : x_4 = (nI (bs k9)) := by rw [ex_4, ex_3]; exact (bs_nI k9 (by omega)).1
      clear ex_4
      refine lv_istore_n (lv' := [(3, .int (nI (bs k9))), (0, .ref h0), (1, .int (nI d9)), (2, .int (nI r9))]) hx hb d_O_fetch_104 rfl hl (by decide) rfl (fun ls hl => ?_)
      refine lv_goto (tgt := 85) hx hb d_O_fetch_105 (by decide) ?_
      exact ih (j + 1) (by omega) (by omega) (bs k9) (by have := (bs_nI k9 hf0).2; omega) (by omega) _ _ hP hD hS ls (lv_sub hl [0, 1, 2, 3] rfl)
set_option maxHeartbeats 4000000 in
set_option maxRecDepth 100000 in
theorem u_fetch (l : Launch) (dC : Nat → ClassId) (dI : Nat → Nat → Nat) (sz : Nat) (h0 : Nat) (cB cI cL cZ : ClassId) (y : MY) (σ : Sg) (a1 : Int32) (a2 : Int32) (hs : sOk σ) (hm : mOk σ y) : Met l y_O_fetch k_O_fetch ({ frames := 4, cells := 0, slots := 0, locals := 92 } : Room) (va_Pc [.ref h0, .int a1, .int a2] (pc_E (dC, dI) (mW h0 cB cI cL cZ y) (mT cB cI cL cZ) sz)) (va_Qi (fun (r : Int32) (_ : Unit) => (sFetch σ a1 a2).2.1 = 0 → r = (sFetch σ a1 a2).2.2) (fun (_ : Unit) t => ∃ y2 : MY, (mOk (sFetch σ a1 a2).1 y2 ∧ y2.z_thrown = (sFetch σ a1 a2).2.1) ∧ at_E (dC, dI) (va_A (mW h0 cB cI cL cZ y) sz) (mW h0 cB cI cL cZ y2) (mT cB cI cL cZ) t) (va_A (mW h0 cB cI cL cZ y) sz)) 0 0 (va_A (mW h0 cB cI cL cZ y) sz) := by
  obtain ⟨hbu, hgo, hfi, hma, hln, hau, hsu, hrow, hmade, hbase, htx9, hot, hpc, z_thrown, z_down, z_lasts, z_size, z_documents, z_madeSize, z_baseSize, z_textSize, z_textSteps, z_otherSize, z_pieceSize, z_at, z_end, z_value, fbu, fg, ff, fm, fl, fa, fs, fr, f, fb, ft, fo, fp⟩ := y
  have hm_dw : z_down = bI σ.down := hm.dw
  have hm_la : z_lasts = vI σ.go := hm.la
  have hm_sz : z_size = nI σ.buf.length := hm.sz
  have hm_bf : tx σ.buf σ.buf.length fbu := hm.bf
  have hm_nd : z_documents = nI σ.nd := hm.nd
  have hm_gn : ∀ i, i < 8 → ((∃ d, σ.ds i = some d) → fg i = 0) ∧ (i < σ.nd → σ.ds i = none → ¬ fg i = 0) ∧ (σ.nd ≤ i → fg i = 0) := hm.gn
  have hm_fm : ∀ i, i < 8 → (∀ d, σ.ds i = some d → ff i = nI d.first ∧ fm i = nI d.count) ∧ (σ.nd ≤ i → ff i = 0 ∧ fm i = 0) := hm.fm
  have hm_ln : ∀ j, j < 512 → fl j = vI (lnq (pqS σ.ds) j) := hm.ln
  have hm_rw : rowOk (pqS σ.ds) fr := hm.rw
  have hm_au : ∀ i j d r, i < 8 → j < 64 → σ.ds i = some d → d.rv j = some r → fa (64 * i + j) = r.au ∧ fs (64 * i + j) = r.sm := hm.au
  have hm_tq : (z_textSize = nI σ.fet.length ∧ tx σ.fet σ.fet.length ft) ∨ (z_textSize = (-1) ∧ σ.fet = []) := hm.tq
  have hm_st : z_textSteps = σ.stp := hm.st
  clear hm
  obtain rfl : z_size = _ := hm_sz
  obtain rfl : z_lasts = _ := hm_la
  obtain rfl : z_documents = _ := hm_nd
  obtain rfl : z_textSteps = _ := hm_st
  have hm_sz : nI σ.buf.length = nI σ.buf.length := rfl
  have hm_la : vI σ.go = vI σ.go := rfl
  have hm_nd : nI σ.nd = nI σ.nd := rfl
  have hm_st : σ.stp = σ.stp := rfl
  have hml0 := hs.buf.1
  have hnd8 := hs.nd
  have hfl : ∀ j, j < 512 → fl j = vI (lnq (pqS σ.ds) j) := hm_ln
  have hrw : rowOk (pqS σ.ds) fr := hm_rw
  have hbd := row_bd hrw
  refine Met.ofW (cc := prog_9_method_28_code) (maxL := 4) (ret := (some .int)) (by decide) rfl ?_
  intro p e s m args below meth c s₁ B hml hv
  obtain ⟨rfl, hsz, hP, hK, hD0, hN⟩ := hv
  have hx := B.exec
  have hb := B.bytes
  have hr := B.returns
  have hts := atoms_spec (ws := k_O_fetch) B.pre
  have hw0 : ∀ w ∈ w0, w.before _ s = true := fun w h => hts w (List.mem_cons_of_mem _ h)
  have hown : s.vm.findClass R_O = some m.cls := findClass_of_methodNamed B.named
  have hlocks := B.notSynchronized
  subst hsz
  have hD := hD0.self (sz := s.heap.size)
  generalize hAe : va_A (mW h0 cB cI cL cZ _) s.heap.size = A at hD ⊢
  have hA : ∀ q : Nat, s.heap.size ≤ q → A q := fun q h => by rw [← hAe]; exact Or.inr h
  clear hAe hD0
  have hS : va_S A s.heap s.heap [] := va_S.rf
  replace hP : va_P (dC, dI) vwCl [(h0, .inr (7, [.int z_thrown, .int z_down, .int (vI σ.go), .ref hbu, .int (nI σ.buf.length), .int (nI σ.nd), .ref hgo, .ref hfi, .ref hma, .ref hln, .ref hau, .ref hsu, .ref hrow, .ref hmade, .int z_madeSize, .ref hbase, .int z_baseSize, .ref htx9, .int z_textSize, .int σ.stp, .ref hot, .int z_otherSize, .ref hpc, .int z_pieceSize, .int z_at, .int z_end, .int z_value])), (hbu, .inl (cB, 256, .inl (fbu))), (hgo, .inl (cZ, 8, .inl (fg))), (hfi, .inl (cI, 8, .inl (ff))), (hma, .inl (cI, 8, .inl (fm))), (hln, .inl (cL, 512, .inl (fl))), (hau, .inl (cI, 512, .inl (fa))), (hsu, .inl (cI, 512, .inl (fs))), (hrow, .inl (cB, 16384, .inl (fr))), (hmade, .inl (cB, 256, .inl (f))), (hbase, .inl (cB, 256, .inl (fb))), (htx9, .inl (cB, 256, .inl (ft))), (hot, .inl (cB, 256, .inl (fo))), (hpc, .inl (cB, 600, .inl (fp)))] s.heap := hP
  replace hD : va_D A [(h0, .inr (7, [.int z_thrown, .int z_down, .int (vI σ.go), .ref hbu, .int (nI σ.buf.length), .int (nI σ.nd), .ref hgo, .ref hfi, .ref hma, .ref hln, .ref hau, .ref hsu, .ref hrow, .ref hmade, .int z_madeSize, .ref hbase, .int z_baseSize, .ref htx9, .int z_textSize, .int σ.stp, .ref hot, .int z_otherSize, .ref hpc, .int z_pieceSize, .int z_at, .int z_end, .int z_value])), (hbu, .inl (cB, 256, .inl (fbu))), (hgo, .inl (cZ, 8, .inl (fg))), (hfi, .inl (cI, 8, .inl (ff))), (hma, .inl (cI, 8, .inl (fm))), (hln, .inl (cL, 512, .inl (fl))), (hau, .inl (cI, 512, .inl (fa))), (hsu, .inl (cI, 512, .inl (fs))), (hrow, .inl (cB, 16384, .inl (fr))), (hmade, .inl (cB, 256, .inl (f))), (hbase, .inl (cB, 256, .inl (fb))), (htx9, .inl (cB, 256, .inl (ft))), (hot, .inl (cB, 256, .inl (fo))), (hpc, .inl (cB, 600, .inl (fp)))] := hD
  have hl := lv_entry ([.ref h0, .int a1, .int a2]) (n := 4) (Nat.le_of_ble_eq_true rfl)
  rw [lg_entry_eq]
  generalize (lg_sl ([.ref h0, .int a1, .int a2]) ++ List.replicate (4 - (lg_sl ([.ref h0, .int a1, .int a2])).length) Slot.unset).toArray = ls at hl ⊢
  have hl : lv_has ls 4 [(0, .ref h0), (1, .int a1), (2, .int a2)] := hl
  rcases hdw : σ.down with _ | _
  · obtain rfl : z_down = 0 := (by have h9 := hm_dw; rw [hdw] at h9; exact h9)
    refine lv_aload_n hx hb d_O_fetch_0 rfl (lv_at hl 0 rfl) ?_
    refine lv_iconst (v := 1) hx hb d_O_fetch_1 (by decide) ?_
    have hPc := hP.sub (ws' := [(h0, .inr (7, [.int z_thrown, .int 0, .int (vI σ.go), .ref hbu, .int (nI σ.buf.length), .int (nI σ.nd), .ref hgo, .ref hfi, .ref hma, .ref hln, .ref hau, .ref hsu, .ref hrow, .ref hmade, .int z_madeSize, .ref hbase, .int z_baseSize, .ref htx9, .int z_textSize, .int σ.stp, .ref hot, .int z_otherSize, .ref hpc, .int z_pieceSize, .int z_at, .int z_end, .int z_value]))]) [0] rfl
    have hKc := hK.sub (tys' := []) [] rfl
    have hDc := hD.sub (ws' := [(h0, .inr (7, [.int z_thrown, .int 0, .int (vI σ.go), .ref hbu, .int (nI σ.buf.length), .int (nI σ.nd), .ref hgo, .ref hfi, .ref hma, .ref hln, .ref hau, .ref hsu, .ref hrow, .ref hmade, .int z_madeSize, .ref hbase, .int z_baseSize, .ref htx9, .int z_textSize, .int σ.stp, .ref hot, .int z_otherSize, .ref hpc, .int z_pieceSize, .int z_at, .int z_end, .int z_value]))]) [0] (by decide) rfl
    have hFc := va_free (wc := [(h0, .inr (7, [.int z_thrown, .int 0, .int (vI σ.go), .ref hbu, .int (nI σ.buf.length), .int (nI σ.nd), .ref hgo, .ref hfi, .ref hma, .ref hln, .ref hau, .ref hsu, .ref hrow, .ref hmade, .int z_madeSize, .ref hbase, .int z_baseSize, .ref htx9, .int z_textSize, .int σ.stp, .ref hot, .int z_otherSize, .ref hpc, .int z_pieceSize, .int z_at, .int z_end, .int z_value]))]) hD hS hA [0] rfl
    refine va_calli (va_runV (As := [.int 1]) (rest := []) ⟨hx, hb, hml, hown, hw0⟩ (o_runs_U l dC dI s.heap.size h0 z_thrown (vI σ.go) (.ref hbu) (nI σ.buf.length) (nI σ.nd) (.ref hgo) (.ref hfi) (.ref hma) (.ref hln) (.ref hau) (.ref hsu) (.ref hrow) (.ref hmade) z_madeSize (.ref hbase) z_baseSize (.ref htx9) z_textSize σ.stp (.ref hot) z_otherSize (.ref hpc) z_pieceSize z_at z_end z_value 1) (cwV 1 hw0 (gd_Vm wm_358 wm_359 wm_360 wm_243 wm_361) rfl rfl rfl (by decide +kernel) ⟨by decide +kernel, by decide +kernel⟩) (prV_E hPc hKc hDc hN (va_recv hKc hPc (ci := 7) (q0 := 0) rfl rfl)) rfl rfl hl.1 rfl (lv_room (Nat.le_of_ble_eq_true rfl)) d_O_fetch_2 ⟨by decide +kernel, by decide +kernel⟩) hS (fun q _ h => hFc q h) hFc (fun r_1 u t H1 locs ht hvm hw hB hz1 hk1 hS => ?_)
    obtain ⟨hP1, hK1, hD1⟩ := hB
    rw [ht] at hP1
    have hK1 := va_K.moved hvm.symm hK1
    try dsimp only at hw
    obtain ⟨hP, hD⟩ := va_join (wr := [(hbu, .inl (cB, 256, .inl (fbu))), (hgo, .inl (cZ, 8, .inl (fg))), (hfi, .inl (cI, 8, .inl (ff))), (hma, .inl (cI, 8, .inl (fm))), (hln, .inl (cL, 512, .inl (fl))), (hau, .inl (cI, 512, .inl (fa))), (hsu, .inl (cI, 512, .inl (fs))), (hrow, .inl (cB, 16384, .inl (fr))), (hmade, .inl (cB, 256, .inl (f))), (hbase, .inl (cB, 256, .inl (fb))), (htx9, .inl (cB, 256, .inl (ft))), (hot, .inl (cB, 256, .inl (fo))), (hpc, .inl (cB, 600, .inl (fp)))]) (w1 := [(h0, .inr (7, [.int 0, .int 0, .int (vI σ.go), .ref hbu, .int (nI σ.buf.length), .int (nI σ.nd), .ref hgo, .ref hfi, .ref hma, .ref hln, .ref hau, .ref hsu, .ref hrow, .ref hmade, .int z_madeSize, .ref hbase, .int z_baseSize, .ref htx9, .int z_textSize, .int σ.stp, .ref hot, .int z_otherSize, .ref hpc, .int z_pieceSize, .int z_at, .int z_end, .int z_value]))]) hP hD [0] [1, 2, 3, 4, 5, 6, 7, 8, 9, 10, 11, 12, 13] rfl rfl (by decide) (by decide) hk1 hFc hP1 hD1
    generalize H1 = H at hP hS ⊢
    replace hP : va_P (dC, dI) vwCl [(hbu, .inl (cB, 256, .inl (fbu))), (hgo, .inl (cZ, 8, .inl (fg))), (hfi, .inl (cI, 8, .inl (ff))), (hma, .inl (cI, 8, .inl (fm))), (hln, .inl (cL, 512, .inl (fl))), (hau, .inl (cI, 512, .inl (fa))), (hsu, .inl (cI, 512, .inl (fs))), (hrow, .inl (cB, 16384, .inl (fr))), (hmade, .inl (cB, 256, .inl (f))), (hbase, .inl (cB, 256, .inl (fb))), (htx9, .inl (cB, 256, .inl (ft))), (hot, .inl (cB, 256, .inl (fo))), (hpc, .inl (cB, 600, .inl (fp))), (h0, .inr (7, [.int 0, .int 0, .int (vI σ.go), .ref hbu, .int (nI σ.buf.length), .int (nI σ.nd), .ref hgo, .ref hfi, .ref hma, .ref hln, .ref hau, .ref hsu, .ref hrow, .ref hmade, .int z_madeSize, .ref hbase, .int z_baseSize, .ref htx9, .int z_textSize, .int σ.stp, .ref hot, .int z_otherSize, .ref hpc, .int z_pieceSize, .int z_at, .int z_end, .int z_value]))] H := hP
    replace hD : va_D A [(hbu, .inl (cB, 256, .inl (fbu))), (hgo, .inl (cZ, 8, .inl (fg))), (hfi, .inl (cI, 8, .inl (ff))), (hma, .inl (cI, 8, .inl (fm))), (hln, .inl (cL, 512, .inl (fl))), (hau, .inl (cI, 512, .inl (fa))), (hsu, .inl (cI, 512, .inl (fs))), (hrow, .inl (cB, 16384, .inl (fr))), (hmade, .inl (cB, 256, .inl (f))), (hbase, .inl (cB, 256, .inl (fb))), (htx9, .inl (cB, 256, .inl (ft))), (hot, .inl (cB, 256, .inl (fo))), (hpc, .inl (cB, 600, .inl (fp))), (h0, .inr (7, [.int 0, .int 0, .int (vI σ.go), .ref hbu, .int (nI σ.buf.length), .int (nI σ.nd), .ref hgo, .ref hfi, .ref hma, .ref hln, .ref hau, .ref hsu, .ref hrow, .ref hmade, .int z_madeSize, .ref hbase, .int z_baseSize, .ref htx9, .int z_textSize, .int σ.stp, .ref hot, .int z_otherSize, .ref hpc, .int z_pieceSize, .int z_at, .int z_end, .int z_value]))] := hD
    replace hK : va_K (dC, dI) vwCl [(cB, .byte), (cI, .int), (cL, .short), (cZ, .boolean)] s := hK
    obtain rfl : r_1 = 1 := hw
    refine lv_if_eq (tgt := 17) hx hb d_O_fetch_5 (by decide) (fun h9 => absurd h9 (by decide +kernel)) (fun _ => ?_)
    rcases hdg : dGet σ.ds a1 with _ | ⟨i, d⟩
    · have hF := no_doc hs.nd hm_gn hdg
      refine lv_aload_n hx hb d_O_fetch_8 rfl (lv_at hl 0 rfl) ?_
      refine lv_iload_n hx hb d_O_fetch_9 rfl (lv_at hl 1 rfl) ?_
      refine lv_iload_n hx hb d_O_fetch_10 rfl (lv_at hl 2 rfl) ?_
      have hPc := hP.sub (ws' := [(h0, .inr (7, [.int 0, .int 0, .int (vI σ.go), .ref hbu, .int (nI σ.buf.length), .int (nI σ.nd), .ref hgo, .ref hfi, .ref hma, .ref hln, .ref hau, .ref hsu, .ref hrow, .ref hmade, .int z_madeSize, .ref hbase, .int z_baseSize, .ref htx9, .int z_textSize, .int σ.stp, .ref hot, .int z_otherSize, .ref hpc, .int z_pieceSize, .int z_at, .int z_end, .int z_value])), (hgo, .inl (cZ, 8, .inl ((fg)))), (hfi, .inl (cI, 8, .inl ((ff)))), (hma, .inl (cI, 8, .inl ((fm))))]) [13, 1, 2, 3] rfl
      have hKc := hK.sub (tys' := [(cZ, .boolean), (cI, .int)]) [3, 1] rfl
      refine ps_i (va_runV (As := [.int a1, .int a2]) (rest := []) ⟨hx, hb, hml, hown, hw0⟩ (o_asked_N l dC dI h0 0 0 (vI σ.go) (.ref hbu) (nI σ.buf.length) (.ref hln) (.ref hau) (.ref hsu) (.ref hrow) (.ref hmade) z_madeSize (.ref hbase) z_baseSize (.ref htx9) z_textSize σ.stp (.ref hot) z_otherSize (.ref hpc) z_pieceSize z_at z_end z_value σ.nd hgo cZ (fg) hfi cI (ff) hma (fm) a1 a2 (by first | assumption | decide | omega) (by first | assumption | decide | omega)) (cwV 2 hw0 (gd_Vm wm_373 wm_374 wm_375 wm_243 wm_376) rfl rfl rfl (by decide +kernel) ⟨by decide +kernel, by decide +kernel⟩) (prV_R hPc hKc hN (va_recv hKc hPc (ci := 7) (q0 := 0) rfl rfl)) rfl rfl hl.1 rfl (lv_room (Nat.le_of_ble_eq_true rfl)) d_O_fetch_11 ⟨by decide +kernel, by decide +kernel⟩) (fun r_3 hr_3 => ?_)
      obtain rfl : r_3 = 0 := hr_3
      refine lv_if_ne (tgt := 30) hx hb d_O_fetch_14 (by decide) (fun h9 => absurd h9 (by decide +kernel)) (fun _ => ?_)
      refine lv_aload_n hx hb d_O_fetch_17 rfl (lv_at hl 0 rfl) ?_
      refine va_get (D := (dC, dI)) (ci := 7) (v := .int 0) (C := R_O) (T := F_O) (N := 27) hx hb hw0 in_O hown hK hP 13 rfl rfl 0 (by decide) (hw0 (.fieldLink R_O 62 "TextKeeperModel" "thrown" "I") wm_330) (fun _ h9 => h9) rfl d_O_fetch_18 ?_
      refine lv_if_ne (tgt := 28) hx hb d_O_fetch_21 (by decide) (fun h9 => absurd h9 (by decide +kernel)) (fun _ => ?_)
      refine lv_iconst (v := (-1)) hx hb d_O_fetch_24 (by decide) ?_
      refine lv_goto (tgt := 29) hx hb d_O_fetch_25 (by decide) ?_
      have hσ : (sFetch σ a1 a2) = (σ, 0, (-1)) := (by unfold sFetch; rw [if_neg (by rw [hdw]; decide), hdg])
      have hP9 := hP.sub (ws' := [(h0, .inr (7, [.int 0, .int 0, .int (vI σ.go), .ref hbu, .int (nI σ.buf.length), .int (nI σ.nd), .ref hgo, .ref hfi, .ref hma, .ref hln, .ref hau, .ref hsu, .ref hrow, .ref hmade, .int z_madeSize, .ref hbase, .int z_baseSize, .ref htx9, .int z_textSize, .int σ.stp, .ref hot, .int z_otherSize, .ref hpc, .int z_pieceSize, .int z_at, .int z_end, .int z_value])), (hbu, .inl (cB, 256, .inl (fbu))), (hgo, .inl (cZ, 8, .inl (fg))), (hfi, .inl (cI, 8, .inl (ff))), (hma, .inl (cI, 8, .inl (fm))), (hln, .inl (cL, 512, .inl (fl))), (hau, .inl (cI, 512, .inl (fa))), (hsu, .inl (cI, 512, .inl (fs))), (hrow, .inl (cB, 16384, .inl (fr))), (hmade, .inl (cB, 256, .inl (f))), (hbase, .inl (cB, 256, .inl (fb))), (htx9, .inl (cB, 256, .inl (ft))), (hot, .inl (cB, 256, .inl (fo))), (hpc, .inl (cB, 600, .inl (fp)))]) [13, 0, 1, 2, 3, 4, 5, 6, 7, 8, 9, 10, 11, 12] rfl
      have hD9 := hD.sub (ws' := [(h0, .inr (7, [.int 0, .int 0, .int (vI σ.go), .ref hbu, .int (nI σ.buf.length), .int (nI σ.nd), .ref hgo, .ref hfi, .ref hma, .ref hln, .ref hau, .ref hsu, .ref hrow, .ref hmade, .int z_madeSize, .ref hbase, .int z_baseSize, .ref htx9, .int z_textSize, .int σ.stp, .ref hot, .int z_otherSize, .ref hpc, .int z_pieceSize, .int z_at, .int z_end, .int z_value])), (hbu, .inl (cB, 256, .inl (fbu))), (hgo, .inl (cZ, 8, .inl (fg))), (hfi, .inl (cI, 8, .inl (ff))), (hma, .inl (cI, 8, .inl (fm))), (hln, .inl (cL, 512, .inl (fl))), (hau, .inl (cI, 512, .inl (fa))), (hsu, .inl (cI, 512, .inl (fs))), (hrow, .inl (cB, 16384, .inl (fr))), (hmade, .inl (cB, 256, .inl (f))), (hbase, .inl (cB, 256, .inl (fb))), (htx9, .inl (cB, 256, .inl (ft))), (hot, .inl (cB, 256, .inl (fo))), (hpc, .inl (cB, 600, .inl (fp)))]) [13, 0, 1, 2, 3, 4, 5, 6, 7, 8, 9, 10, 11, 12] (by decide) rfl
      have hK9 := hK.sub (tys' := mT cB cI cL cZ) [0, 1, 2, 3] rfl
      exact W.iret (v := (-1)) hx hb hr (fun t ht hW => ⟨⟨(-1), (), rfl, (fun _ => (congrArg (fun z => z.2.2) hσ).symm), ⟨⟨hbu, hgo, hfi, hma, hln, hau, hsu, hrow, hmade, hbase, htx9, hot, hpc, 0, 0, (vI σ.go), (nI σ.buf.length), (nI σ.nd), z_madeSize, z_baseSize, z_textSize, σ.stp, z_otherSize, z_pieceSize, z_at, z_end, z_value, fbu, fg, ff, fm, fl, fa, fs, fr, f, fb, ft, fo, fp⟩, ⟨(by rw [hσ]; exact (mOk.mk hm_dw hm_la hm_sz hm_bf hm_nd hm_gn hm_fm hm_ln hm_rw hm_au hm_tq hm_st)), (congrArg (fun z => z.2.1) hσ).symm⟩, by rw [ht]; exact hP9, va_K.moved hW.alike hK9, hD9⟩⟩, hS.F ht⟩) hS.2.2 d_O_fetch_29
    · obtain ⟨hi8, rfl, hdi⟩ := dGet_some hdg
      have hdk := hs.ds _ _ hdi
      have hd9 : i < σ.nd := hdk.1
      have hgn : fg i = 0 := (hm_gn i hi8).1 ⟨d, hdi⟩
      have hff : ff i = nI d.first := ((hm_fm i hi8).1 d hdi).1
      have hfm : fm i = nI d.count := ((hm_fm i hi8).1 d hdi).2
      have hdn : d.count ≤ 64 := hdk.2.2.1
      have hfd : d.first ≤ d.count := hdk.2.1
      refine lv_aload_n hx hb d_O_fetch_8 rfl (lv_at hl 0 rfl) ?_
      by_cases hna : a2 < nI d.first ∨ nI d.count ≤ a2
      · have hz9 := hs
        refine lv_iload_n hx hb d_O_fetch_9 rfl (lv_at hl 1 rfl) ?_
        refine lv_iload_n hx hb d_O_fetch_10 rfl (lv_at hl 2 rfl) ?_
        have hPc := hP.sub (ws' := [(h0, .inr (7, [.int 0, .int 0, .int (vI σ.go), .ref hbu, .int (nI σ.buf.length), .int (nI σ.nd), .ref hgo, .ref hfi, .ref hma, .ref hln, .ref hau, .ref hsu, .ref hrow, .ref hmade, .int z_madeSize, .ref hbase, .int z_baseSize, .ref htx9, .int z_textSize, .int σ.stp, .ref hot, .int z_otherSize, .ref hpc, .int z_pieceSize, .int z_at, .int z_end, .int z_value])), (hgo, .inl (cZ, 8, .inl ((fg)))), (hfi, .inl (cI, 8, .inl ((ff)))), (hma, .inl (cI, 8, .inl ((fm))))]) [13, 1, 2, 3] rfl
        have hKc := hK.sub (tys' := [(cZ, .boolean), (cI, .int)]) [3, 1] rfl
        refine ps_i (va_runV (As := [.int (nI i), .int a2]) (rest := []) ⟨hx, hb, hml, hown, hw0⟩ (o_asked_F l dC dI h0 0 0 (vI σ.go) (.ref hbu) (nI σ.buf.length) (.ref hln) (.ref hau) (.ref hsu) (.ref hrow) (.ref hmade) z_madeSize (.ref hbase) z_baseSize (.ref htx9) z_textSize σ.stp (.ref hot) z_otherSize (.ref hpc) z_pieceSize z_at z_end z_value σ.nd hgo cZ (fg) hfi cI (ff) hma (fm) i d.first d.count a2 (by first | assumption | decide | omega) (by first | assumption | decide | omega) (by first | assumption | decide | omega) (by first | assumption | decide | omega) (by first | assumption | decide | omega) (by first | assumption | decide | omega) (by first | assumption | decide | omega)) (cwV 2 hw0 (gd_Vm wm_373 wm_374 wm_375 wm_243 wm_376) rfl rfl rfl (by decide +kernel) ⟨by decide +kernel, by decide +kernel⟩) (prV_R hPc hKc hN (va_recv hKc hPc (ci := 7) (q0 := 0) rfl rfl)) rfl rfl hl.1 rfl (lv_room (Nat.le_of_ble_eq_true rfl)) d_O_fetch_11 ⟨by decide +kernel, by decide +kernel⟩) (fun r_4 hr_4 => ?_)
        obtain rfl : r_4 = 0 := hr_4
        refine lv_if_ne (tgt := 30) hx hb d_O_fetch_14 (by decide) (fun h9 => absurd h9 (by decide +kernel)) (fun _ => ?_)
        refine lv_aload_n hx hb d_O_fetch_17 rfl (lv_at hl 0 rfl) ?_
        refine va_get (D := (dC, dI)) (ci := 7) (v := .int 0) (C := R_O) (T := F_O) (N := 27) hx hb hw0 in_O hown hK hP 13 rfl rfl 0 (by decide) (hw0 (.fieldLink R_O 62 "TextKeeperModel" "thrown" "I") wm_330) (fun _ h9 => h9) rfl d_O_fetch_18 ?_
        refine lv_if_ne (tgt := 28) hx hb d_O_fetch_21 (by decide) (fun h9 => absurd h9 (by decide +kernel)) (fun _ => ?_)
        refine lv_iconst (v := (-1)) hx hb d_O_fetch_24 (by decide) ?_
        refine lv_goto (tgt := 29) hx hb d_O_fetch_25 (by decide) ?_
        have hσ : (sFetch σ (nI i) a2) = (σ, 0, (-1)) := (by unfold sFetch; rw [if_neg (by rw [hdw]; decide), hdg]; exact if_pos hna)
        have hP9 := hP.sub (ws' := [(h0, .inr (7, [.int 0, .int 0, .int (vI σ.go), .ref hbu, .int (nI σ.buf.length), .int (nI σ.nd), .ref hgo, .ref hfi, .ref hma, .ref hln, .ref hau, .ref hsu, .ref hrow, .ref hmade, .int z_madeSize, .ref hbase, .int z_baseSize, .ref htx9, .int z_textSize, .int σ.stp, .ref hot, .int z_otherSize, .ref hpc, .int z_pieceSize, .int z_at, .int z_end, .int z_value])), (hbu, .inl (cB, 256, .inl (fbu))), (hgo, .inl (cZ, 8, .inl (fg))), (hfi, .inl (cI, 8, .inl (ff))), (hma, .inl (cI, 8, .inl (fm))), (hln, .inl (cL, 512, .inl (fl))), (hau, .inl (cI, 512, .inl (fa))), (hsu, .inl (cI, 512, .inl (fs))), (hrow, .inl (cB, 16384, .inl (fr))), (hmade, .inl (cB, 256, .inl (f))), (hbase, .inl (cB, 256, .inl (fb))), (htx9, .inl (cB, 256, .inl (ft))), (hot, .inl (cB, 256, .inl (fo))), (hpc, .inl (cB, 600, .inl (fp)))]) [13, 0, 1, 2, 3, 4, 5, 6, 7, 8, 9, 10, 11, 12] rfl
        have hD9 := hD.sub (ws' := [(h0, .inr (7, [.int 0, .int 0, .int (vI σ.go), .ref hbu, .int (nI σ.buf.length), .int (nI σ.nd), .ref hgo, .ref hfi, .ref hma, .ref hln, .ref hau, .ref hsu, .ref hrow, .ref hmade, .int z_madeSize, .ref hbase, .int z_baseSize, .ref htx9, .int z_textSize, .int σ.stp, .ref hot, .int z_otherSize, .ref hpc, .int z_pieceSize, .int z_at, .int z_end, .int z_value])), (hbu, .inl (cB, 256, .inl (fbu))), (hgo, .inl (cZ, 8, .inl (fg))), (hfi, .inl (cI, 8, .inl (ff))), (hma, .inl (cI, 8, .inl (fm))), (hln, .inl (cL, 512, .inl (fl))), (hau, .inl (cI, 512, .inl (fa))), (hsu, .inl (cI, 512, .inl (fs))), (hrow, .inl (cB, 16384, .inl (fr))), (hmade, .inl (cB, 256, .inl (f))), (hbase, .inl (cB, 256, .inl (fb))), (htx9, .inl (cB, 256, .inl (ft))), (hot, .inl (cB, 256, .inl (fo))), (hpc, .inl (cB, 600, .inl (fp)))]) [13, 0, 1, 2, 3, 4, 5, 6, 7, 8, 9, 10, 11, 12] (by decide) rfl
        have hK9 := hK.sub (tys' := mT cB cI cL cZ) [0, 1, 2, 3] rfl
        exact W.iret (v := (-1)) hx hb hr (fun t ht hW => ⟨⟨(-1), (), rfl, (fun _ => (congrArg (fun z => z.2.2) hσ).symm), ⟨⟨hbu, hgo, hfi, hma, hln, hau, hsu, hrow, hmade, hbase, htx9, hot, hpc, 0, 0, (vI σ.go), (nI σ.buf.length), (nI σ.nd), z_madeSize, z_baseSize, z_textSize, σ.stp, z_otherSize, z_pieceSize, z_at, z_end, z_value, fbu, fg, ff, fm, fl, fa, fs, fr, f, fb, ft, fo, fp⟩, ⟨(by rw [hσ]; exact (mOk.mk hm_dw hm_la hm_sz hm_bf hm_nd hm_gn hm_fm hm_ln hm_rw hm_au hm_tq hm_st)), (congrArg (fun z => z.2.1) hσ).symm⟩, by rw [ht]; exact hP9, va_K.moved hW.alike hK9, hD9⟩⟩, hS.F ht⟩) hS.2.2 d_O_fetch_29
      · obtain ⟨r9, ha1r9, ha2r9, rfl⟩   := ask_r hfd hdn hna
        refine lv_iload_n hx hb d_O_fetch_9 rfl (lv_at hl 1 rfl) ?_
        refine lv_iload_n hx hb d_O_fetch_10 rfl (lv_at hl 2 rfl) ?_
        have hPc := hP.sub (ws' := [(h0, .inr (7, [.int 0, .int 0, .int (vI σ.go), .ref hbu, .int (nI σ.buf.length), .int (nI σ.nd), .ref hgo, .ref hfi, .ref hma, .ref hln, .ref hau, .ref hsu, .ref hrow, .ref hmade, .int z_madeSize, .ref hbase, .int z_baseSize, .ref htx9, .int z_textSize, .int σ.stp, .ref hot, .int z_otherSize, .ref hpc, .int z_pieceSize, .int z_at, .int z_end, .int z_value])), (hgo, .inl (cZ, 8, .inl ((fg)))), (hfi, .inl (cI, 8, .inl ((ff)))), (hma, .inl (cI, 8, .inl ((fm))))]) [13, 1, 2, 3] rfl
        have hKc := hK.sub (tys' := [(cZ, .boolean), (cI, .int)]) [3, 1] rfl
        refine ps_i (va_runV (As := [.int (nI i), .int (nI r9)]) (rest := []) ⟨hx, hb, hml, hown, hw0⟩ (o_asked_T l dC dI h0 0 0 (vI σ.go) (.ref hbu) (nI σ.buf.length) (.ref hln) (.ref hau) (.ref hsu) (.ref hrow) (.ref hmade) z_madeSize (.ref hbase) z_baseSize (.ref htx9) z_textSize σ.stp (.ref hot) z_otherSize (.ref hpc) z_pieceSize z_at z_end z_value σ.nd hgo cZ (fg) hfi cI (ff) hma (fm) i d.first d.count r9 (by first | assumption | decide | omega) (by first | assumption | decide | omega) (by first | assumption | decide | omega) (by first | assumption | decide | omega) (by first | assumption | decide | omega) (by first | assumption | decide | omega) (by first | assumption | decide | omega) (by first | assumption | decide | omega)) (cwV 2 hw0 (gd_Vm wm_373 wm_374 wm_375 wm_243 wm_376) rfl rfl rfl (by decide +kernel) ⟨by decide +kernel, by decide +kernel⟩) (prV_R hPc hKc hN (va_recv hKc hPc (ci := 7) (q0 := 0) rfl rfl)) rfl rfl hl.1 rfl (lv_room (Nat.le_of_ble_eq_true rfl)) d_O_fetch_11 ⟨by decide +kernel, by decide +kernel⟩) (fun r_5 hr_5 => ?_)
        obtain rfl : r_5 = 1 := hr_5
        refine lv_if_ne (tgt := 30) hx hb d_O_fetch_14 (by decide) (fun _ => ?_) (fun h9 => absurd h9 (by decide +kernel))
        have hr64 : r9 < 64 := (by omega)
        have hpq : agn (pqF (pqS σ.ds) i) r9 = agn (dmP d) r9 := agn_pq hr64 hdi
        rcases hag0 : agn (dmP d) r9 with _ | Y
        · have hag := hpq.trans hag0
          refine lv_aload_n hx hb d_O_fetch_30 rfl (lv_at hl 0 rfl) ?_
          refine lv_iload_n hx hb d_O_fetch_31 rfl (lv_at hl 1 rfl) ?_
          refine lv_iload_n hx hb d_O_fetch_32 rfl (lv_at hl 2 rfl) ?_
          have hPc := hP.sub (ws' := [(h0, .inr (7, [.int 0, .int 0, .int (vI σ.go), .ref hbu, .int (nI σ.buf.length), .int (nI σ.nd), .ref hgo, .ref hfi, .ref hma, .ref hln, .ref hau, .ref hsu, .ref hrow, .ref hmade, .int z_madeSize, .ref hbase, .int z_baseSize, .ref htx9, .int z_textSize, .int σ.stp, .ref hot, .int z_otherSize, .ref hpc, .int z_pieceSize, .int z_at, .int z_end, .int z_value])), (hmade, .inl (cB, 256, .inl ((f)))), (hbase, .inl (cB, 256, .inl ((fb)))), (hrow, .inl (cB, 16384, .inl ((fr)))), (hln, .inl (cL, 512, .inl ((fl))))]) [13, 8, 9, 7, 4] rfl
          have hKc := hK.sub (tys' := [(cB, .byte), (cL, .short)]) [0, 2] rfl
          have hDc := hD.sub (ws' := [(h0, .inr (7, [.int 0, .int 0, .int (vI σ.go), .ref hbu, .int (nI σ.buf.length), .int (nI σ.nd), .ref hgo, .ref hfi, .ref hma, .ref hln, .ref hau, .ref hsu, .ref hrow, .ref hmade, .int z_madeSize, .ref hbase, .int z_baseSize, .ref htx9, .int z_textSize, .int σ.stp, .ref hot, .int z_otherSize, .ref hpc, .int z_pieceSize, .int z_at, .int z_end, .int z_value])), (hmade, .inl (cB, 256, .inl ((f)))), (hbase, .inl (cB, 256, .inl ((fb)))), (hrow, .inl (cB, 16384, .inl ((fr)))), (hln, .inl (cL, 512, .inl ((fl))))]) [13, 8, 9, 7, 4] (by decide) rfl
          have hFc := va_free (wc := [(h0, .inr (7, [.int 0, .int 0, .int (vI σ.go), .ref hbu, .int (nI σ.buf.length), .int (nI σ.nd), .ref hgo, .ref hfi, .ref hma, .ref hln, .ref hau, .ref hsu, .ref hrow, .ref hmade, .int z_madeSize, .ref hbase, .int z_baseSize, .ref htx9, .int z_textSize, .int σ.stp, .ref hot, .int z_otherSize, .ref hpc, .int z_pieceSize, .int z_at, .int z_end, .int z_value])), (hmade, .inl (cB, 256, .inl ((f)))), (hbase, .inl (cB, 256, .inl ((fb)))), (hrow, .inl (cB, 16384, .inl ((fr)))), (hln, .inl (cL, 512, .inl ((fl))))]) hD hS hA [13, 8, 9, 7, 4] rfl
          refine va_calli (va_runV (As := [.int (nI i), .int (nI r9)]) (rest := []) ⟨hx, hb, hml, hown, hw0⟩ (o_again_N l dC dI H.size h0 0 0 (vI σ.go) (.ref hbu) (nI σ.buf.length) (nI σ.nd) (.ref hgo) (.ref hfi) (.ref hma) (.ref hau) (.ref hsu) z_madeSize z_baseSize (.ref htx9) z_textSize σ.stp (.ref hot) z_otherSize (.ref hpc) z_pieceSize z_at z_end z_value hmade hbase cB (f) (fb) hrow (fr) hln cL (fl) (pqS σ.ds) i r9 (by first | assumption | decide | omega) (by first | assumption | decide | omega) (by first | assumption | decide | omega) (by first | assumption | decide | omega) (by first | assumption | decide | omega)) (cwV 2 hw0 (gd_Vm wm_385 wm_386 wm_387 wm_243 wm_388) rfl rfl rfl (by decide +kernel) ⟨by decide +kernel, by decide +kernel⟩) (prV_E hPc hKc hDc hN (va_recv hKc hPc (ci := 7) (q0 := 0) rfl rfl)) rfl rfl hl.1 rfl (lv_room (Nat.le_of_ble_eq_true rfl)) d_O_fetch_33 ⟨by decide +kernel, by decide +kernel⟩) hS (fun q _ h => hFc q h) hFc (fun r_6 u t H1 locs ht hvm hw hB hz1 hk1 hS => ?_)
          obtain ⟨hmade2_7, hbase2_8, k2_9, f2_10, fb2_11, bz2_12, at2_13, en2_14, vv2_15, hu_16, hP1, hK1, hD1⟩ := hB
          rw [ht] at hP1
          have hK1 := va_K.moved hvm.symm hK1
          try dsimp only at hw
          obtain ⟨hP, hD⟩ := va_join (wr := [(hbu, .inl (cB, 256, .inl (fbu))), (hgo, .inl (cZ, 8, .inl (fg))), (hfi, .inl (cI, 8, .inl (ff))), (hma, .inl (cI, 8, .inl (fm))), (hau, .inl (cI, 512, .inl (fa))), (hsu, .inl (cI, 512, .inl (fs))), (htx9, .inl (cB, 256, .inl (ft))), (hot, .inl (cB, 256, .inl (fo))), (hpc, .inl (cB, 600, .inl (fp)))]) (w1 := [(h0, .inr (7, [.int 0, .int 0, .int (vI σ.go), .ref hbu, .int (nI σ.buf.length), .int (nI σ.nd), .ref hgo, .ref hfi, .ref hma, .ref hln, .ref hau, .ref hsu, .ref hrow, .ref hmade2_7, .int (nI k2_9), .ref hbase2_8, .int bz2_12, .ref htx9, .int z_textSize, .int σ.stp, .ref hot, .int z_otherSize, .ref hpc, .int z_pieceSize, .int at2_13, .int en2_14, .int vv2_15])), (hmade2_7, .inl (cB, 256, .inl (f2_10))), (hbase2_8, .inl (cB, 256, .inl (fb2_11))), (hrow, .inl (cB, 16384, .inl ((fr)))), (hln, .inl (cL, 512, .inl ((fl))))]) hP hD [13, 8, 9, 7, 4] [0, 1, 2, 3, 5, 6, 10, 11, 12] rfl rfl (by decide) (by decide) hk1 hFc hP1 hD1
          generalize H1 = H at hP hS ⊢
          replace hP : va_P (dC, dI) vwCl [(hbu, .inl (cB, 256, .inl (fbu))), (hgo, .inl (cZ, 8, .inl (fg))), (hfi, .inl (cI, 8, .inl (ff))), (hma, .inl (cI, 8, .inl (fm))), (hau, .inl (cI, 512, .inl (fa))), (hsu, .inl (cI, 512, .inl (fs))), (htx9, .inl (cB, 256, .inl (ft))), (hot, .inl (cB, 256, .inl (fo))), (hpc, .inl (cB, 600, .inl (fp))), (h0, .inr (7, [.int 0, .int 0, .int (vI σ.go), .ref hbu, .int (nI σ.buf.length), .int (nI σ.nd), .ref hgo, .ref hfi, .ref hma, .ref hln, .ref hau, .ref hsu, .ref hrow, .ref hmade2_7, .int (nI k2_9), .ref hbase2_8, .int bz2_12, .ref htx9, .int z_textSize, .int σ.stp, .ref hot, .int z_otherSize, .ref hpc, .int z_pieceSize, .int at2_13, .int en2_14, .int vv2_15])), (hmade2_7, .inl (cB, 256, .inl (f2_10))), (hbase2_8, .inl (cB, 256, .inl (fb2_11))), (hrow, .inl (cB, 16384, .inl ((fr)))), (hln, .inl (cL, 512, .inl ((fl))))] H := hP
          replace hD : va_D A [(hbu, .inl (cB, 256, .inl (fbu))), (hgo, .inl (cZ, 8, .inl (fg))), (hfi, .inl (cI, 8, .inl (ff))), (hma, .inl (cI, 8, .inl (fm))), (hau, .inl (cI, 512, .inl (fa))), (hsu, .inl (cI, 512, .inl (fs))), (htx9, .inl (cB, 256, .inl (ft))), (hot, .inl (cB, 256, .inl (fo))), (hpc, .inl (cB, 600, .inl (fp))), (h0, .inr (7, [.int 0, .int 0, .int (vI σ.go), .ref hbu, .int (nI σ.buf.length), .int (nI σ.nd), .ref hgo, .ref hfi, .ref hma, .ref hln, .ref hau, .ref hsu, .ref hrow, .ref hmade2_7, .int (nI k2_9), .ref hbase2_8, .int bz2_12, .ref htx9, .int z_textSize, .int σ.stp, .ref hot, .int z_otherSize, .ref hpc, .int z_pieceSize, .int at2_13, .int en2_14, .int vv2_15])), (hmade2_7, .inl (cB, 256, .inl (f2_10))), (hbase2_8, .inl (cB, 256, .inl (fb2_11))), (hrow, .inl (cB, 16384, .inl ((fr)))), (hln, .inl (cL, 512, .inl ((fl))))] := hD
          replace hK : va_K (dC, dI) vwCl [(cB, .byte), (cI, .int), (cL, .short), (cZ, .boolean)] s := hK
          obtain rfl : r_6 = 0 := hw
          refine lv_if_ne (tgt := 42) hx hb d_O_fetch_36 (by decide) (fun h9 => absurd h9 (by decide +kernel)) (fun _ => ?_)
          refine lv_bipush (v := (-2)) hx hb d_O_fetch_39 (by decide +kernel) ?_
          have hσ : (sFetch σ (nI i) (nI r9)) = (σ, 0, (-2)) := (by unfold sFetch; rw [if_neg (by rw [hdw]; decide), hdg]; refine (if_neg (fun q => ask_n ha1r9 ha2r9 hdn q)).trans ?_; rw [nI_clamp (by omega), hag0])
          have hP9 := hP.sub (ws' := [(h0, .inr (7, [.int 0, .int 0, .int (vI σ.go), .ref hbu, .int (nI σ.buf.length), .int (nI σ.nd), .ref hgo, .ref hfi, .ref hma, .ref hln, .ref hau, .ref hsu, .ref hrow, .ref hmade2_7, .int (nI k2_9), .ref hbase2_8, .int bz2_12, .ref htx9, .int z_textSize, .int σ.stp, .ref hot, .int z_otherSize, .ref hpc, .int z_pieceSize, .int at2_13, .int en2_14, .int vv2_15])), (hbu, .inl (cB, 256, .inl (fbu))), (hgo, .inl (cZ, 8, .inl (fg))), (hfi, .inl (cI, 8, .inl (ff))), (hma, .inl (cI, 8, .inl (fm))), (hln, .inl (cL, 512, .inl ((fl)))), (hau, .inl (cI, 512, .inl (fa))), (hsu, .inl (cI, 512, .inl (fs))), (hrow, .inl (cB, 16384, .inl ((fr)))), (hmade2_7, .inl (cB, 256, .inl (f2_10))), (hbase2_8, .inl (cB, 256, .inl (fb2_11))), (htx9, .inl (cB, 256, .inl (ft))), (hot, .inl (cB, 256, .inl (fo))), (hpc, .inl (cB, 600, .inl (fp)))]) [9, 0, 1, 2, 3, 13, 4, 5, 12, 10, 11, 6, 7, 8] rfl
          have hD9 := hD.sub (ws' := [(h0, .inr (7, [.int 0, .int 0, .int (vI σ.go), .ref hbu, .int (nI σ.buf.length), .int (nI σ.nd), .ref hgo, .ref hfi, .ref hma, .ref hln, .ref hau, .ref hsu, .ref hrow, .ref hmade2_7, .int (nI k2_9), .ref hbase2_8, .int bz2_12, .ref htx9, .int z_textSize, .int σ.stp, .ref hot, .int z_otherSize, .ref hpc, .int z_pieceSize, .int at2_13, .int en2_14, .int vv2_15])), (hbu, .inl (cB, 256, .inl (fbu))), (hgo, .inl (cZ, 8, .inl (fg))), (hfi, .inl (cI, 8, .inl (ff))), (hma, .inl (cI, 8, .inl (fm))), (hln, .inl (cL, 512, .inl ((fl)))), (hau, .inl (cI, 512, .inl (fa))), (hsu, .inl (cI, 512, .inl (fs))), (hrow, .inl (cB, 16384, .inl ((fr)))), (hmade2_7, .inl (cB, 256, .inl (f2_10))), (hbase2_8, .inl (cB, 256, .inl (fb2_11))), (htx9, .inl (cB, 256, .inl (ft))), (hot, .inl (cB, 256, .inl (fo))), (hpc, .inl (cB, 600, .inl (fp)))]) [9, 0, 1, 2, 3, 13, 4, 5, 12, 10, 11, 6, 7, 8] (by decide) rfl
          have hK9 := hK.sub (tys' := mT cB cI cL cZ) [0, 1, 2, 3] rfl
          exact W.iret (v := (-2)) hx hb hr (fun t ht hW => ⟨⟨(-2), (), rfl, (fun _ => (congrArg (fun z => z.2.2) hσ).symm), ⟨⟨hbu, hgo, hfi, hma, hln, hau, hsu, hrow, hmade2_7, hbase2_8, htx9, hot, hpc, 0, 0, (vI σ.go), (nI σ.buf.length), (nI σ.nd), (nI k2_9), bz2_12, z_textSize, σ.stp, z_otherSize, z_pieceSize, at2_13, en2_14, vv2_15, fbu, fg, ff, fm, (fl), fa, fs, (fr), f2_10, fb2_11, ft, fo, fp⟩, ⟨(by rw [hσ]; exact (mOk.mk hm_dw hm_la hm_sz hm_bf hm_nd hm_gn hm_fm hm_ln hm_rw hm_au hm_tq hm_st)), (congrArg (fun z => z.2.1) hσ).symm⟩, by rw [ht]; exact hP9, va_K.moved hW.alike hK9, hD9⟩⟩, hS.F ht⟩) hS.2.2 d_O_fetch_41
        · have hag := hpq.trans hag0
          refine lv_aload_n hx hb d_O_fetch_30 rfl (lv_at hl 0 rfl) ?_
          refine lv_iload_n hx hb d_O_fetch_31 rfl (lv_at hl 1 rfl) ?_
          refine lv_iload_n hx hb d_O_fetch_32 rfl (lv_at hl 2 rfl) ?_
          have hPc := hP.sub (ws' := [(h0, .inr (7, [.int 0, .int 0, .int (vI σ.go), .ref hbu, .int (nI σ.buf.length), .int (nI σ.nd), .ref hgo, .ref hfi, .ref hma, .ref hln, .ref hau, .ref hsu, .ref hrow, .ref hmade, .int z_madeSize, .ref hbase, .int z_baseSize, .ref htx9, .int z_textSize, .int σ.stp, .ref hot, .int z_otherSize, .ref hpc, .int z_pieceSize, .int z_at, .int z_end, .int z_value])), (hmade, .inl (cB, 256, .inl ((f)))), (hbase, .inl (cB, 256, .inl ((fb)))), (hrow, .inl (cB, 16384, .inl ((fr)))), (hln, .inl (cL, 512, .inl ((fl))))]) [13, 8, 9, 7, 4] rfl
          have hKc := hK.sub (tys' := [(cB, .byte), (cL, .short)]) [0, 2] rfl
          have hDc := hD.sub (ws' := [(h0, .inr (7, [.int 0, .int 0, .int (vI σ.go), .ref hbu, .int (nI σ.buf.length), .int (nI σ.nd), .ref hgo, .ref hfi, .ref hma, .ref hln, .ref hau, .ref hsu, .ref hrow, .ref hmade, .int z_madeSize, .ref hbase, .int z_baseSize, .ref htx9, .int z_textSize, .int σ.stp, .ref hot, .int z_otherSize, .ref hpc, .int z_pieceSize, .int z_at, .int z_end, .int z_value])), (hmade, .inl (cB, 256, .inl ((f)))), (hbase, .inl (cB, 256, .inl ((fb)))), (hrow, .inl (cB, 16384, .inl ((fr)))), (hln, .inl (cL, 512, .inl ((fl))))]) [13, 8, 9, 7, 4] (by decide) rfl
          have hFc := va_free (wc := [(h0, .inr (7, [.int 0, .int 0, .int (vI σ.go), .ref hbu, .int (nI σ.buf.length), .int (nI σ.nd), .ref hgo, .ref hfi, .ref hma, .ref hln, .ref hau, .ref hsu, .ref hrow, .ref hmade, .int z_madeSize, .ref hbase, .int z_baseSize, .ref htx9, .int z_textSize, .int σ.stp, .ref hot, .int z_otherSize, .ref hpc, .int z_pieceSize, .int z_at, .int z_end, .int z_value])), (hmade, .inl (cB, 256, .inl ((f)))), (hbase, .inl (cB, 256, .inl ((fb)))), (hrow, .inl (cB, 16384, .inl ((fr)))), (hln, .inl (cL, 512, .inl ((fl))))]) hD hS hA [13, 8, 9, 7, 4] rfl
          refine va_calli (va_runV (As := [.int (nI i), .int (nI r9)]) (rest := []) ⟨hx, hb, hml, hown, hw0⟩ (o_again_S l dC dI H.size h0 0 0 (vI σ.go) (.ref hbu) (nI σ.buf.length) (nI σ.nd) (.ref hgo) (.ref hfi) (.ref hma) (.ref hau) (.ref hsu) z_madeSize z_baseSize (.ref htx9) z_textSize σ.stp (.ref hot) z_otherSize (.ref hpc) z_pieceSize z_at z_end z_value hmade hbase cB (f) (fb) hrow (fr) hln cL (fl) (pqS σ.ds) i r9 Y (by first | assumption | decide | omega) (by first | assumption | decide | omega) (by first | assumption | decide | omega) (by first | assumption | decide | omega) (by first | assumption | decide | omega)) (cwV 2 hw0 (gd_Vm wm_385 wm_386 wm_387 wm_243 wm_388) rfl rfl rfl (by decide +kernel) ⟨by decide +kernel, by decide +kernel⟩) (prV_E hPc hKc hDc hN (va_recv hKc hPc (ci := 7) (q0 := 0) rfl rfl)) rfl rfl hl.1 rfl (lv_room (Nat.le_of_ble_eq_true rfl)) d_O_fetch_33 ⟨by decide +kernel, by decide +kernel⟩) hS (fun q _ h => hFc q h) hFc (fun r_17 u t H1 locs ht hvm hw hB hz1 hk1 hS => ?_)
          obtain ⟨hmade2_18, hbase2_19, k2_20, f2_21, fb2_22, bz2_23, at2_24, en2_25, vv2_26, ⟨hu_27_0, hu_27_1⟩, hP1, hK1, hD1⟩ := hB
          rw [ht] at hP1
          have hK1 := va_K.moved hvm.symm hK1
          try dsimp only at hw
          obtain ⟨hP, hD⟩ := va_join (wr := [(hbu, .inl (cB, 256, .inl (fbu))), (hgo, .inl (cZ, 8, .inl (fg))), (hfi, .inl (cI, 8, .inl (ff))), (hma, .inl (cI, 8, .inl (fm))), (hau, .inl (cI, 512, .inl (fa))), (hsu, .inl (cI, 512, .inl (fs))), (htx9, .inl (cB, 256, .inl (ft))), (hot, .inl (cB, 256, .inl (fo))), (hpc, .inl (cB, 600, .inl (fp)))]) (w1 := [(h0, .inr (7, [.int 0, .int 0, .int (vI σ.go), .ref hbu, .int (nI σ.buf.length), .int (nI σ.nd), .ref hgo, .ref hfi, .ref hma, .ref hln, .ref hau, .ref hsu, .ref hrow, .ref hmade2_18, .int (nI k2_20), .ref hbase2_19, .int bz2_23, .ref htx9, .int z_textSize, .int σ.stp, .ref hot, .int z_otherSize, .ref hpc, .int z_pieceSize, .int at2_24, .int en2_25, .int vv2_26])), (hmade2_18, .inl (cB, 256, .inl (f2_21))), (hbase2_19, .inl (cB, 256, .inl (fb2_22))), (hrow, .inl (cB, 16384, .inl ((fr)))), (hln, .inl (cL, 512, .inl ((fl))))]) hP hD [13, 8, 9, 7, 4] [0, 1, 2, 3, 5, 6, 10, 11, 12] rfl rfl (by decide) (by decide) hk1 hFc hP1 hD1
          generalize H1 = H at hP hS ⊢
          replace hP : va_P (dC, dI) vwCl [(hbu, .inl (cB, 256, .inl (fbu))), (hgo, .inl (cZ, 8, .inl (fg))), (hfi, .inl (cI, 8, .inl (ff))), (hma, .inl (cI, 8, .inl (fm))), (hau, .inl (cI, 512, .inl (fa))), (hsu, .inl (cI, 512, .inl (fs))), (htx9, .inl (cB, 256, .inl (ft))), (hot, .inl (cB, 256, .inl (fo))), (hpc, .inl (cB, 600, .inl (fp))), (h0, .inr (7, [.int 0, .int 0, .int (vI σ.go), .ref hbu, .int (nI σ.buf.length), .int (nI σ.nd), .ref hgo, .ref hfi, .ref hma, .ref hln, .ref hau, .ref hsu, .ref hrow, .ref hmade2_18, .int (nI k2_20), .ref hbase2_19, .int bz2_23, .ref htx9, .int z_textSize, .int σ.stp, .ref hot, .int z_otherSize, .ref hpc, .int z_pieceSize, .int at2_24, .int en2_25, .int vv2_26])), (hmade2_18, .inl (cB, 256, .inl (f2_21))), (hbase2_19, .inl (cB, 256, .inl (fb2_22))), (hrow, .inl (cB, 16384, .inl ((fr)))), (hln, .inl (cL, 512, .inl ((fl))))] H := hP
          replace hD : va_D A [(hbu, .inl (cB, 256, .inl (fbu))), (hgo, .inl (cZ, 8, .inl (fg))), (hfi, .inl (cI, 8, .inl (ff))), (hma, .inl (cI, 8, .inl (fm))), (hau, .inl (cI, 512, .inl (fa))), (hsu, .inl (cI, 512, .inl (fs))), (htx9, .inl (cB, 256, .inl (ft))), (hot, .inl (cB, 256, .inl (fo))), (hpc, .inl (cB, 600, .inl (fp))), (h0, .inr (7, [.int 0, .int 0, .int (vI σ.go), .ref hbu, .int (nI σ.buf.length), .int (nI σ.nd), .ref hgo, .ref hfi, .ref hma, .ref hln, .ref hau, .ref hsu, .ref hrow, .ref hmade2_18, .int (nI k2_20), .ref hbase2_19, .int bz2_23, .ref htx9, .int z_textSize, .int σ.stp, .ref hot, .int z_otherSize, .ref hpc, .int z_pieceSize, .int at2_24, .int en2_25, .int vv2_26])), (hmade2_18, .inl (cB, 256, .inl (f2_21))), (hbase2_19, .inl (cB, 256, .inl (fb2_22))), (hrow, .inl (cB, 16384, .inl ((fr)))), (hln, .inl (cL, 512, .inl ((fl))))] := hD
          replace hK : va_K (dC, dI) vwCl [(cB, .byte), (cI, .int), (cL, .short), (cZ, .boolean)] s := hK
          obtain rfl : r_17 = 1 := hw
          refine lv_if_ne (tgt := 42) hx hb d_O_fetch_36 (by decide) (fun _ => ?_) (fun h9 => absurd h9 (by decide +kernel))
          refine lv_iconst (v := 0) hx hb d_O_fetch_42 (by decide) ?_
          refine lv_istore_n (lv' := [(3, .int 0), (0, .ref h0), (1, .int (nI i)), (2, .int (nI r9))]) hx hb d_O_fetch_43 rfl hl (by decide) rfl (fun ls hl => ?_)
          refine lo_fcp h0 0 0 (vI σ.go) (.ref hbu) (nI σ.buf.length) (nI σ.nd) (.ref hgo) (.ref hfi) (.ref hma) (.ref hln) (.ref hau) (.ref hsu) (.ref hrow) (.ref hbase2_19) bz2_23 z_textSize σ.stp (.ref hot) z_otherSize (.ref hpc) z_pieceSize at2_24 en2_25 vv2_26 htx9 hmade2_18 cB k2_20 f2_21 Y ([(hbu, .inl (cB, 256, .inl (fbu))), (hgo, .inl (cZ, 8, .inl (fg))), (hfi, .inl (cI, 8, .inl (ff))), (hma, .inl (cI, 8, .inl (fm))), (hau, .inl (cI, 512, .inl (fa))), (hsu, .inl (cI, 512, .inl (fs))), (hot, .inl (cB, 256, .inl (fo))), (hpc, .inl (cB, 600, .inl (fp))), (hbase2_19, .inl (cB, 256, .inl (fb2_22))), (hrow, .inl (cB, 16384, .inl ((fr)))), (hln, .inl (cL, 512, .inl ((fl))))]) i r9 hu_27_0 hu_27_1 hx hb hml hown hw0 hN (hK.sub (tys' := [(cB, .byte)]) [0] rfl) hA (fun ft2 g0 H locs hP hD hS ls hl => ?_) (k2_20 + 1) 0 (by omega) (by omega) ft (by rw [List.take_zero]; exact tx_nil _) _ _ (hP.sub (ws' := [(h0, .inr (7, [.int 0, .int 0, .int (vI σ.go), .ref hbu, .int (nI σ.buf.length), .int (nI σ.nd), .ref hgo, .ref hfi, .ref hma, .ref hln, .ref hau, .ref hsu, .ref hrow, .ref hmade2_18, .int (nI k2_20), .ref hbase2_19, .int bz2_23, .ref htx9, .int z_textSize, .int σ.stp, .ref hot, .int z_otherSize, .ref hpc, .int z_pieceSize, .int at2_24, .int en2_25, .int vv2_26])), (htx9, .inl (cB, 256, .inl (ft))), (hmade2_18, .inl (cB, 256, .inl (f2_21))), (hbu, .inl (cB, 256, .inl (fbu))), (hgo, .inl (cZ, 8, .inl (fg))), (hfi, .inl (cI, 8, .inl (ff))), (hma, .inl (cI, 8, .inl (fm))), (hau, .inl (cI, 512, .inl (fa))), (hsu, .inl (cI, 512, .inl (fs))), (hot, .inl (cB, 256, .inl (fo))), (hpc, .inl (cB, 600, .inl (fp))), (hbase2_19, .inl (cB, 256, .inl (fb2_22))), (hrow, .inl (cB, 16384, .inl ((fr)))), (hln, .inl (cL, 512, .inl ((fl))))]) [9, 6, 10, 0, 1, 2, 3, 4, 5, 7, 8, 11, 12, 13] rfl) (hD.sub (ws' := [(h0, .inr (7, [.int 0, .int 0, .int (vI σ.go), .ref hbu, .int (nI σ.buf.length), .int (nI σ.nd), .ref hgo, .ref hfi, .ref hma, .ref hln, .ref hau, .ref hsu, .ref hrow, .ref hmade2_18, .int (nI k2_20), .ref hbase2_19, .int bz2_23, .ref htx9, .int z_textSize, .int σ.stp, .ref hot, .int z_otherSize, .ref hpc, .int z_pieceSize, .int at2_24, .int en2_25, .int vv2_26])), (htx9, .inl (cB, 256, .inl (ft))), (hmade2_18, .inl (cB, 256, .inl (f2_21))), (hbu, .inl (cB, 256, .inl (fbu))), (hgo, .inl (cZ, 8, .inl (fg))), (hfi, .inl (cI, 8, .inl (ff))), (hma, .inl (cI, 8, .inl (fm))), (hau, .inl (cI, 512, .inl (fa))), (hsu, .inl (cI, 512, .inl (fs))), (hot, .inl (cB, 256, .inl (fo))), (hpc, .inl (cB, 600, .inl (fp))), (hbase2_19, .inl (cB, 256, .inl (fb2_22))), (hrow, .inl (cB, 16384, .inl ((fr)))), (hln, .inl (cL, 512, .inl ((fl))))]) [9, 6, 10, 0, 1, 2, 3, 4, 5, 7, 8, 11, 12, 13] (by decide) rfl) hS ls (lv_sub hl [0, 1, 2, 3] rfl)
          replace hP : va_P (dC, dI) vwCl [(h0, .inr (7, [.int 0, .int 0, .int (vI σ.go), .ref hbu, .int (nI σ.buf.length), .int (nI σ.nd), .ref hgo, .ref hfi, .ref hma, .ref hln, .ref hau, .ref hsu, .ref hrow, .ref hmade2_18, .int (nI k2_20), .ref hbase2_19, .int bz2_23, .ref htx9, .int z_textSize, .int σ.stp, .ref hot, .int z_otherSize, .ref hpc, .int z_pieceSize, .int at2_24, .int en2_25, .int vv2_26])), (htx9, .inl (cB, 256, .inl (ft2))), (hmade2_18, .inl (cB, 256, .inl (f2_21))), (hbu, .inl (cB, 256, .inl (fbu))), (hgo, .inl (cZ, 8, .inl (fg))), (hfi, .inl (cI, 8, .inl (ff))), (hma, .inl (cI, 8, .inl (fm))), (hau, .inl (cI, 512, .inl (fa))), (hsu, .inl (cI, 512, .inl (fs))), (hot, .inl (cB, 256, .inl (fo))), (hpc, .inl (cB, 600, .inl (fp))), (hbase2_19, .inl (cB, 256, .inl (fb2_22))), (hrow, .inl (cB, 16384, .inl ((fr)))), (hln, .inl (cL, 512, .inl ((fl))))] H := hP
          replace hD : va_D A [(h0, .inr (7, [.int 0, .int 0, .int (vI σ.go), .ref hbu, .int (nI σ.buf.length), .int (nI σ.nd), .ref hgo, .ref hfi, .ref hma, .ref hln, .ref hau, .ref hsu, .ref hrow, .ref hmade2_18, .int (nI k2_20), .ref hbase2_19, .int bz2_23, .ref htx9, .int z_textSize, .int σ.stp, .ref hot, .int z_otherSize, .ref hpc, .int z_pieceSize, .int at2_24, .int en2_25, .int vv2_26])), (htx9, .inl (cB, 256, .inl (ft2))), (hmade2_18, .inl (cB, 256, .inl (f2_21))), (hbu, .inl (cB, 256, .inl (fbu))), (hgo, .inl (cZ, 8, .inl (fg))), (hfi, .inl (cI, 8, .inl (ff))), (hma, .inl (cI, 8, .inl (fm))), (hau, .inl (cI, 512, .inl (fa))), (hsu, .inl (cI, 512, .inl (fs))), (hot, .inl (cB, 256, .inl (fo))), (hpc, .inl (cB, 600, .inl (fp))), (hbase2_19, .inl (cB, 256, .inl (fb2_22))), (hrow, .inl (cB, 16384, .inl ((fr)))), (hln, .inl (cL, 512, .inl ((fl))))] := hD
          have hY2 : tx Y k2_20 ft2 := (by have h9 := g0; rw [← hu_27_0.1, List.take_length] at h9; rw [← hu_27_0.1]; exact h9)
          refine lv_aload_n hx hb d_O_fetch_70 rfl (lv_at hl 1 rfl) ?_
          refine lv_aload_n hx hb d_O_fetch_71 rfl (lv_at hl 1 rfl) ?_
          refine va_get (D := (dC, dI)) (ci := 7) (v := .int (nI k2_20)) (C := R_O) (T := F_O) (N := 27) hx hb hw0 in_O hown hK hP 0 rfl rfl 14 (by decide) (hw0 (.fieldLink R_O 113 "TextKeeperModel" "madeSize" "I") wm_246) (fun _ h9 => h9) rfl d_O_fetch_72 ?_
          refine va_put (D := (dC, dI)) (ci := 7) (v := .int (nI k2_20)) (ty := .int) (C := R_O) (T := F_O) (N := 27) hx hb hw0 in_O ft_O tk_O nk_O hown hK hP hD hS 0 rfl rfl 18 (by decide) (hw0 (.fieldLink R_O 50 "TextKeeperModel" "textSize" "I") wm_363) (fun _ h9 => h9) rfl (by decide +kernel) rfl rfl (Nat.le_of_ble_eq_true rfl) d_O_fetch_75 (fun H locs hP hD hS => ?_)
          replace hP : va_P (dC, dI) vwCl [(h0, .inr (7, [.int 0, .int 0, .int (vI σ.go), .ref hbu, .int (nI σ.buf.length), .int (nI σ.nd), .ref hgo, .ref hfi, .ref hma, .ref hln, .ref hau, .ref hsu, .ref hrow, .ref hmade2_18, .int (nI k2_20), .ref hbase2_19, .int bz2_23, .ref htx9, .int (nI k2_20), .int σ.stp, .ref hot, .int z_otherSize, .ref hpc, .int z_pieceSize, .int at2_24, .int en2_25, .int vv2_26])), (htx9, .inl (cB, 256, .inl (ft2))), (hmade2_18, .inl (cB, 256, .inl (f2_21))), (hbu, .inl (cB, 256, .inl (fbu))), (hgo, .inl (cZ, 8, .inl (fg))), (hfi, .inl (cI, 8, .inl (ff))), (hma, .inl (cI, 8, .inl (fm))), (hau, .inl (cI, 512, .inl (fa))), (hsu, .inl (cI, 512, .inl (fs))), (hot, .inl (cB, 256, .inl (fo))), (hpc, .inl (cB, 600, .inl (fp))), (hbase2_19, .inl (cB, 256, .inl (fb2_22))), (hrow, .inl (cB, 16384, .inl ((fr)))), (hln, .inl (cL, 512, .inl ((fl))))] H := hP
          replace hD : va_D A [(h0, .inr (7, [.int 0, .int 0, .int (vI σ.go), .ref hbu, .int (nI σ.buf.length), .int (nI σ.nd), .ref hgo, .ref hfi, .ref hma, .ref hln, .ref hau, .ref hsu, .ref hrow, .ref hmade2_18, .int (nI k2_20), .ref hbase2_19, .int bz2_23, .ref htx9, .int (nI k2_20), .int σ.stp, .ref hot, .int z_otherSize, .ref hpc, .int z_pieceSize, .int at2_24, .int en2_25, .int vv2_26])), (htx9, .inl (cB, 256, .inl (ft2))), (hmade2_18, .inl (cB, 256, .inl (f2_21))), (hbu, .inl (cB, 256, .inl (fbu))), (hgo, .inl (cZ, 8, .inl (fg))), (hfi, .inl (cI, 8, .inl (ff))), (hma, .inl (cI, 8, .inl (fm))), (hau, .inl (cI, 512, .inl (fa))), (hsu, .inl (cI, 512, .inl (fs))), (hot, .inl (cB, 256, .inl (fo))), (hpc, .inl (cB, 600, .inl (fp))), (hbase2_19, .inl (cB, 256, .inl (fb2_22))), (hrow, .inl (cB, 16384, .inl ((fr)))), (hln, .inl (cL, 512, .inl ((fl))))] := hD
          refine lv_aload_n hx hb d_O_fetch_78 rfl (lv_at hl 1 rfl) ?_
          refine lv_iconst (v := 0) hx hb d_O_fetch_79 (by decide) ?_
          refine va_put (D := (dC, dI)) (ci := 7) (v := .int 0) (ty := .int) (C := R_O) (T := F_O) (N := 27) hx hb hw0 in_O ft_O tk_O nk_O hown hK hP hD hS 0 rfl rfl 19 (by decide) (hw0 (.fieldLink R_O 53 "TextKeeperModel" "textSteps" "I") wm_362) (fun _ h9 => h9) rfl (by decide +kernel) rfl rfl (Nat.le_of_ble_eq_true rfl) d_O_fetch_80 (fun H locs hP hD hS => ?_)
          replace hP : va_P (dC, dI) vwCl [(h0, .inr (7, [.int 0, .int 0, .int (vI σ.go), .ref hbu, .int (nI σ.buf.length), .int (nI σ.nd), .ref hgo, .ref hfi, .ref hma, .ref hln, .ref hau, .ref hsu, .ref hrow, .ref hmade2_18, .int (nI k2_20), .ref hbase2_19, .int bz2_23, .ref htx9, .int (nI k2_20), .int 0, .ref hot, .int z_otherSize, .ref hpc, .int z_pieceSize, .int at2_24, .int en2_25, .int vv2_26])), (htx9, .inl (cB, 256, .inl (ft2))), (hmade2_18, .inl (cB, 256, .inl (f2_21))), (hbu, .inl (cB, 256, .inl (fbu))), (hgo, .inl (cZ, 8, .inl (fg))), (hfi, .inl (cI, 8, .inl (ff))), (hma, .inl (cI, 8, .inl (fm))), (hau, .inl (cI, 512, .inl (fa))), (hsu, .inl (cI, 512, .inl (fs))), (hot, .inl (cB, 256, .inl (fo))), (hpc, .inl (cB, 600, .inl (fp))), (hbase2_19, .inl (cB, 256, .inl (fb2_22))), (hrow, .inl (cB, 16384, .inl ((fr)))), (hln, .inl (cL, 512, .inl ((fl))))] H := hP
          replace hD : va_D A [(h0, .inr (7, [.int 0, .int 0, .int (vI σ.go), .ref hbu, .int (nI σ.buf.length), .int (nI σ.nd), .ref hgo, .ref hfi, .ref hma, .ref hln, .ref hau, .ref hsu, .ref hrow, .ref hmade2_18, .int (nI k2_20), .ref hbase2_19, .int bz2_23, .ref htx9, .int (nI k2_20), .int 0, .ref hot, .int z_otherSize, .ref hpc, .int z_pieceSize, .int at2_24, .int en2_25, .int vv2_26])), (htx9, .inl (cB, 256, .inl (ft2))), (hmade2_18, .inl (cB, 256, .inl (f2_21))), (hbu, .inl (cB, 256, .inl (fbu))), (hgo, .inl (cZ, 8, .inl (fg))), (hfi, .inl (cI, 8, .inl (ff))), (hma, .inl (cI, 8, .inl (fm))), (hau, .inl (cI, 512, .inl (fa))), (hsu, .inl (cI, 512, .inl (fs))), (hot, .inl (cB, 256, .inl (fo))), (hpc, .inl (cB, 600, .inl (fp))), (hbase2_19, .inl (cB, 256, .inl (fb2_22))), (hrow, .inl (cB, 16384, .inl ((fr)))), (hln, .inl (cL, 512, .inl ((fl))))] := hD
          refine lv_iload_n hx hb d_O_fetch_83 rfl (lv_at hl 3 rfl) ?_
          refine lv_istore_n (lv' := [(3, .int (nI r9)), (0, .ref h0), (1, .int (nI i)), (2, .int (nI r9))]) hx hb d_O_fetch_84 rfl hl (by decide) rfl (fun ls hl => ?_)
          refine lo_stp h0 0 0 (vI σ.go) (.ref hbu) (nI σ.buf.length) (nI σ.nd) (.ref hgo) (.ref hfi) (.ref hma) (.ref hln) (.ref hau) (.ref hsu) (.ref hrow) (.ref hbase2_19) bz2_23 (nI k2_20) (.ref hot) z_otherSize (.ref hpc) z_pieceSize at2_24 en2_25 vv2_26 htx9 hmade2_18 cB k2_20 f2_21 ([(hbu, .inl (cB, 256, .inl (fbu))), (hgo, .inl (cZ, 8, .inl (fg))), (hfi, .inl (cI, 8, .inl (ff))), (hma, .inl (cI, 8, .inl (fm))), (hau, .inl (cI, 512, .inl (fa))), (hsu, .inl (cI, 512, .inl (fs))), (hot, .inl (cB, 256, .inl (fo))), (hpc, .inl (cB, 600, .inl (fp))), (hbase2_19, .inl (cB, 256, .inl (fb2_22))), (hrow, .inl (cB, 16384, .inl ((fr)))), (hln, .inl (cL, 512, .inl ((fl))))]) i r9 ft2 hr64 hx hb hml hown hw0 hN (hK.sub (tys' := [(cB, .byte)]) [0] rfl) hA (fun j9 g9 H locs hP hD hS ls hl => ?_) 7 0 (by omega) (by omega) r9 hr64 (by omega) _ _ (hP.sub (ws' := [(h0, .inr (7, [.int 0, .int 0, .int (vI σ.go), .ref hbu, .int (nI σ.buf.length), .int (nI σ.nd), .ref hgo, .ref hfi, .ref hma, .ref hln, .ref hau, .ref hsu, .ref hrow, .ref hmade2_18, .int (nI k2_20), .ref hbase2_19, .int bz2_23, .ref htx9, .int (nI k2_20), .int 0, .ref hot, .int z_otherSize, .ref hpc, .int z_pieceSize, .int at2_24, .int en2_25, .int vv2_26])), (htx9, .inl (cB, 256, .inl (ft2))), (hmade2_18, .inl (cB, 256, .inl (f2_21))), (hbu, .inl (cB, 256, .inl (fbu))), (hgo, .inl (cZ, 8, .inl (fg))), (hfi, .inl (cI, 8, .inl (ff))), (hma, .inl (cI, 8, .inl (fm))), (hau, .inl (cI, 512, .inl (fa))), (hsu, .inl (cI, 512, .inl (fs))), (hot, .inl (cB, 256, .inl (fo))), (hpc, .inl (cB, 600, .inl (fp))), (hbase2_19, .inl (cB, 256, .inl (fb2_22))), (hrow, .inl (cB, 16384, .inl ((fr)))), (hln, .inl (cL, 512, .inl ((fl))))]) [0, 1, 2, 3, 4, 5, 6, 7, 8, 9, 10, 11, 12, 13] rfl) (hD.sub (ws' := [(h0, .inr (7, [.int 0, .int 0, .int (vI σ.go), .ref hbu, .int (nI σ.buf.length), .int (nI σ.nd), .ref hgo, .ref hfi, .ref hma, .ref hln, .ref hau, .ref hsu, .ref hrow, .ref hmade2_18, .int (nI k2_20), .ref hbase2_19, .int bz2_23, .ref htx9, .int (nI k2_20), .int 0, .ref hot, .int z_otherSize, .ref hpc, .int z_pieceSize, .int at2_24, .int en2_25, .int vv2_26])), (htx9, .inl (cB, 256, .inl (ft2))), (hmade2_18, .inl (cB, 256, .inl (f2_21))), (hbu, .inl (cB, 256, .inl (fbu))), (hgo, .inl (cZ, 8, .inl (fg))), (hfi, .inl (cI, 8, .inl (ff))), (hma, .inl (cI, 8, .inl (fm))), (hau, .inl (cI, 512, .inl (fa))), (hsu, .inl (cI, 512, .inl (fs))), (hot, .inl (cB, 256, .inl (fo))), (hpc, .inl (cB, 600, .inl (fp))), (hbase2_19, .inl (cB, 256, .inl (fb2_22))), (hrow, .inl (cB, 16384, .inl ((fr)))), (hln, .inl (cL, 512, .inl ((fl))))]) [0, 1, 2, 3, 4, 5, 6, 7, 8, 9, 10, 11, 12, 13] (by decide) rfl) hS ls (lv_sub hl [0, 1, 2, 3] rfl)
          have hl := lv_sub hl [1] rfl
          have hl : lv_has ls 4 [(0, .ref h0)] := hl
          replace hP : va_P (dC, dI) vwCl [(h0, .inr (7, [.int 0, .int 0, .int (vI σ.go), .ref hbu, .int (nI σ.buf.length), .int (nI σ.nd), .ref hgo, .ref hfi, .ref hma, .ref hln, .ref hau, .ref hsu, .ref hrow, .ref hmade2_18, .int (nI k2_20), .ref hbase2_19, .int bz2_23, .ref htx9, .int (nI k2_20), .int (nI j9), .ref hot, .int z_otherSize, .ref hpc, .int z_pieceSize, .int at2_24, .int en2_25, .int vv2_26])), (htx9, .inl (cB, 256, .inl (ft2))), (hmade2_18, .inl (cB, 256, .inl (f2_21))), (hbu, .inl (cB, 256, .inl (fbu))), (hgo, .inl (cZ, 8, .inl (fg))), (hfi, .inl (cI, 8, .inl (ff))), (hma, .inl (cI, 8, .inl (fm))), (hau, .inl (cI, 512, .inl (fa))), (hsu, .inl (cI, 512, .inl (fs))), (hot, .inl (cB, 256, .inl (fo))), (hpc, .inl (cB, 600, .inl (fp))), (hbase2_19, .inl (cB, 256, .inl (fb2_22))), (hrow, .inl (cB, 16384, .inl ((fr)))), (hln, .inl (cL, 512, .inl ((fl))))] H := hP
          replace hD : va_D A [(h0, .inr (7, [.int 0, .int 0, .int (vI σ.go), .ref hbu, .int (nI σ.buf.length), .int (nI σ.nd), .ref hgo, .ref hfi, .ref hma, .ref hln, .ref hau, .ref hsu, .ref hrow, .ref hmade2_18, .int (nI k2_20), .ref hbase2_19, .int bz2_23, .ref htx9, .int (nI k2_20), .int (nI j9), .ref hot, .int z_otherSize, .ref hpc, .int z_pieceSize, .int at2_24, .int en2_25, .int vv2_26])), (htx9, .inl (cB, 256, .inl (ft2))), (hmade2_18, .inl (cB, 256, .inl (f2_21))), (hbu, .inl (cB, 256, .inl (fbu))), (hgo, .inl (cZ, 8, .inl (fg))), (hfi, .inl (cI, 8, .inl (ff))), (hma, .inl (cI, 8, .inl (fm))), (hau, .inl (cI, 512, .inl (fa))), (hsu, .inl (cI, 512, .inl (fs))), (hot, .inl (cB, 256, .inl (fo))), (hpc, .inl (cB, 600, .inl (fp))), (hbase2_19, .inl (cB, 256, .inl (fb2_22))), (hrow, .inl (cB, 16384, .inl ((fr)))), (hln, .inl (cL, 512, .inl ((fl))))] := hD
          refine lv_aload_n hx hb d_O_fetch_108 rfl (lv_at hl 0 rfl) ?_
          refine va_get (D := (dC, dI)) (ci := 7) (v := .int (nI k2_20)) (C := R_O) (T := F_O) (N := 27) hx hb hw0 in_O hown hK hP 0 rfl rfl 18 (by decide) (hw0 (.fieldLink R_O 50 "TextKeeperModel" "textSize" "I") wm_363) (fun _ h9 => h9) rfl d_O_fetch_109 ?_
          have hσ : (sFetch σ (nI i) (nI r9)) = (sgF σ (Y) (nI (bct 6 r9)), 0, nI k2_20) := (by unfold sFetch; rw [if_neg (by rw [hdw]; decide), hdg]; refine (if_neg (fun q => ask_n ha1r9 ha2r9 hdn q)).trans ?_; rw [nI_clamp (by omega), hag0]; exact congrArg (fun z => (sgF σ Y (nI (bct 6 r9)), (0 : Int32), nI z)) hu_27_0.1)
          have hP9 := hP.sub (ws' := [(h0, .inr (7, [.int 0, .int 0, .int (vI σ.go), .ref hbu, .int (nI σ.buf.length), .int (nI σ.nd), .ref hgo, .ref hfi, .ref hma, .ref hln, .ref hau, .ref hsu, .ref hrow, .ref hmade2_18, .int (nI k2_20), .ref hbase2_19, .int bz2_23, .ref htx9, .int (nI k2_20), .int (nI j9), .ref hot, .int z_otherSize, .ref hpc, .int z_pieceSize, .int at2_24, .int en2_25, .int vv2_26])), (hbu, .inl (cB, 256, .inl (fbu))), (hgo, .inl (cZ, 8, .inl (fg))), (hfi, .inl (cI, 8, .inl (ff))), (hma, .inl (cI, 8, .inl (fm))), (hln, .inl (cL, 512, .inl ((fl)))), (hau, .inl (cI, 512, .inl (fa))), (hsu, .inl (cI, 512, .inl (fs))), (hrow, .inl (cB, 16384, .inl ((fr)))), (hmade2_18, .inl (cB, 256, .inl (f2_21))), (hbase2_19, .inl (cB, 256, .inl (fb2_22))), (htx9, .inl (cB, 256, .inl (ft2))), (hot, .inl (cB, 256, .inl (fo))), (hpc, .inl (cB, 600, .inl (fp)))]) [0, 3, 4, 5, 6, 13, 7, 8, 12, 2, 11, 1, 9, 10] rfl
          have hD9 := hD.sub (ws' := [(h0, .inr (7, [.int 0, .int 0, .int (vI σ.go), .ref hbu, .int (nI σ.buf.length), .int (nI σ.nd), .ref hgo, .ref hfi, .ref hma, .ref hln, .ref hau, .ref hsu, .ref hrow, .ref hmade2_18, .int (nI k2_20), .ref hbase2_19, .int bz2_23, .ref htx9, .int (nI k2_20), .int (nI j9), .ref hot, .int z_otherSize, .ref hpc, .int z_pieceSize, .int at2_24, .int en2_25, .int vv2_26])), (hbu, .inl (cB, 256, .inl (fbu))), (hgo, .inl (cZ, 8, .inl (fg))), (hfi, .inl (cI, 8, .inl (ff))), (hma, .inl (cI, 8, .inl (fm))), (hln, .inl (cL, 512, .inl ((fl)))), (hau, .inl (cI, 512, .inl (fa))), (hsu, .inl (cI, 512, .inl (fs))), (hrow, .inl (cB, 16384, .inl ((fr)))), (hmade2_18, .inl (cB, 256, .inl (f2_21))), (hbase2_19, .inl (cB, 256, .inl (fb2_22))), (htx9, .inl (cB, 256, .inl (ft2))), (hot, .inl (cB, 256, .inl (fo))), (hpc, .inl (cB, 600, .inl (fp)))]) [0, 3, 4, 5, 6, 13, 7, 8, 12, 2, 11, 1, 9, 10] (by decide) rfl
          have hK9 := hK.sub (tys' := mT cB cI cL cZ) [0, 1, 2, 3] rfl
          exact W.iret (v := (nI k2_20)) hx hb hr (fun t ht hW => ⟨⟨(nI k2_20), (), rfl, (fun _ => (congrArg (fun z => z.2.2) hσ).symm), ⟨⟨hbu, hgo, hfi, hma, hln, hau, hsu, hrow, hmade2_18, hbase2_19, htx9, hot, hpc, 0, 0, (vI σ.go), (nI σ.buf.length), (nI σ.nd), (nI k2_20), bz2_23, (nI k2_20), (nI j9), z_otherSize, z_pieceSize, at2_24, en2_25, vv2_26, fbu, fg, ff, fm, (fl), fa, fs, (fr), f2_21, fb2_22, ft2, fo, fp⟩, ⟨(by rw [hσ]; exact (mOk.mk hm_dw hm_la hm_sz hm_bf hm_nd hm_gn hm_fm hm_ln hm_rw hm_au (Or.inl ⟨(by rw [hu_27_0.1]), (by rw [hu_27_0.1]; exact hY2)⟩) (by show nI j9 = nI (bct 6 r9); rw [g9]))), (congrArg (fun z => z.2.1) hσ).symm⟩, by rw [ht]; exact hP9, va_K.moved hW.alike hK9, hD9⟩⟩, hS.F ht⟩) hS.2.2 d_O_fetch_112
  · obtain rfl : z_down = 1 := (by have h9 := hm_dw; rw [hdw] at h9; exact h9)
    refine lv_aload_n hx hb d_O_fetch_0 rfl (lv_at hl 0 rfl) ?_
    refine lv_iconst (v := 1) hx hb d_O_fetch_1 (by decide) ?_
    have hPc := hP.sub (ws' := [(h0, .inr (7, [.int z_thrown, .int 1, .int (vI σ.go), .ref hbu, .int (nI σ.buf.length), .int (nI σ.nd), .ref hgo, .ref hfi, .ref hma, .ref hln, .ref hau, .ref hsu, .ref hrow, .ref hmade, .int z_madeSize, .ref hbase, .int z_baseSize, .ref htx9, .int z_textSize, .int σ.stp, .ref hot, .int z_otherSize, .ref hpc, .int z_pieceSize, .int z_at, .int z_end, .int z_value]))]) [0] rfl
    have hKc := hK.sub (tys' := []) [] rfl
    have hDc := hD.sub (ws' := [(h0, .inr (7, [.int z_thrown, .int 1, .int (vI σ.go), .ref hbu, .int (nI σ.buf.length), .int (nI σ.nd), .ref hgo, .ref hfi, .ref hma, .ref hln, .ref hau, .ref hsu, .ref hrow, .ref hmade, .int z_madeSize, .ref hbase, .int z_baseSize, .ref htx9, .int z_textSize, .int σ.stp, .ref hot, .int z_otherSize, .ref hpc, .int z_pieceSize, .int z_at, .int z_end, .int z_value]))]) [0] (by decide) rfl
    have hFc := va_free (wc := [(h0, .inr (7, [.int z_thrown, .int 1, .int (vI σ.go), .ref hbu, .int (nI σ.buf.length), .int (nI σ.nd), .ref hgo, .ref hfi, .ref hma, .ref hln, .ref hau, .ref hsu, .ref hrow, .ref hmade, .int z_madeSize, .ref hbase, .int z_baseSize, .ref htx9, .int z_textSize, .int σ.stp, .ref hot, .int z_otherSize, .ref hpc, .int z_pieceSize, .int z_at, .int z_end, .int z_value]))]) hD hS hA [0] rfl
    refine va_calli (va_runV (As := [.int 1]) (rest := []) ⟨hx, hb, hml, hown, hw0⟩ (o_runs_D l dC dI s.heap.size h0 z_thrown (vI σ.go) (.ref hbu) (nI σ.buf.length) (nI σ.nd) (.ref hgo) (.ref hfi) (.ref hma) (.ref hln) (.ref hau) (.ref hsu) (.ref hrow) (.ref hmade) z_madeSize (.ref hbase) z_baseSize (.ref htx9) z_textSize σ.stp (.ref hot) z_otherSize (.ref hpc) z_pieceSize z_at z_end z_value 1) (cwV 1 hw0 (gd_Vm wm_358 wm_359 wm_360 wm_243 wm_361) rfl rfl rfl (by decide +kernel) ⟨by decide +kernel, by decide +kernel⟩) (prV_E hPc hKc hDc hN (va_recv hKc hPc (ci := 7) (q0 := 0) rfl rfl)) rfl rfl hl.1 rfl (lv_room (Nat.le_of_ble_eq_true rfl)) d_O_fetch_2 ⟨by decide +kernel, by decide +kernel⟩) hS (fun q _ h => hFc q h) hFc (fun r_28 u t H1 locs ht hvm hw hB hz1 hk1 hS => ?_)
    obtain ⟨hP1, hK1, hD1⟩ := hB
    rw [ht] at hP1
    have hK1 := va_K.moved hvm.symm hK1
    try dsimp only at hw
    obtain ⟨hP, hD⟩ := va_join (wr := [(hbu, .inl (cB, 256, .inl (fbu))), (hgo, .inl (cZ, 8, .inl (fg))), (hfi, .inl (cI, 8, .inl (ff))), (hma, .inl (cI, 8, .inl (fm))), (hln, .inl (cL, 512, .inl (fl))), (hau, .inl (cI, 512, .inl (fa))), (hsu, .inl (cI, 512, .inl (fs))), (hrow, .inl (cB, 16384, .inl (fr))), (hmade, .inl (cB, 256, .inl (f))), (hbase, .inl (cB, 256, .inl (fb))), (htx9, .inl (cB, 256, .inl (ft))), (hot, .inl (cB, 256, .inl (fo))), (hpc, .inl (cB, 600, .inl (fp)))]) (w1 := [(h0, .inr (7, [.int 1, .int 1, .int (vI σ.go), .ref hbu, .int (nI σ.buf.length), .int (nI σ.nd), .ref hgo, .ref hfi, .ref hma, .ref hln, .ref hau, .ref hsu, .ref hrow, .ref hmade, .int z_madeSize, .ref hbase, .int z_baseSize, .ref htx9, .int z_textSize, .int σ.stp, .ref hot, .int z_otherSize, .ref hpc, .int z_pieceSize, .int z_at, .int z_end, .int z_value]))]) hP hD [0] [1, 2, 3, 4, 5, 6, 7, 8, 9, 10, 11, 12, 13] rfl rfl (by decide) (by decide) hk1 hFc hP1 hD1
    generalize H1 = H at hP hS ⊢
    replace hP : va_P (dC, dI) vwCl [(hbu, .inl (cB, 256, .inl (fbu))), (hgo, .inl (cZ, 8, .inl (fg))), (hfi, .inl (cI, 8, .inl (ff))), (hma, .inl (cI, 8, .inl (fm))), (hln, .inl (cL, 512, .inl (fl))), (hau, .inl (cI, 512, .inl (fa))), (hsu, .inl (cI, 512, .inl (fs))), (hrow, .inl (cB, 16384, .inl (fr))), (hmade, .inl (cB, 256, .inl (f))), (hbase, .inl (cB, 256, .inl (fb))), (htx9, .inl (cB, 256, .inl (ft))), (hot, .inl (cB, 256, .inl (fo))), (hpc, .inl (cB, 600, .inl (fp))), (h0, .inr (7, [.int 1, .int 1, .int (vI σ.go), .ref hbu, .int (nI σ.buf.length), .int (nI σ.nd), .ref hgo, .ref hfi, .ref hma, .ref hln, .ref hau, .ref hsu, .ref hrow, .ref hmade, .int z_madeSize, .ref hbase, .int z_baseSize, .ref htx9, .int z_textSize, .int σ.stp, .ref hot, .int z_otherSize, .ref hpc, .int z_pieceSize, .int z_at, .int z_end, .int z_value]))] H := hP
    replace hD : va_D A [(hbu, .inl (cB, 256, .inl (fbu))), (hgo, .inl (cZ, 8, .inl (fg))), (hfi, .inl (cI, 8, .inl (ff))), (hma, .inl (cI, 8, .inl (fm))), (hln, .inl (cL, 512, .inl (fl))), (hau, .inl (cI, 512, .inl (fa))), (hsu, .inl (cI, 512, .inl (fs))), (hrow, .inl (cB, 16384, .inl (fr))), (hmade, .inl (cB, 256, .inl (f))), (hbase, .inl (cB, 256, .inl (fb))), (htx9, .inl (cB, 256, .inl (ft))), (hot, .inl (cB, 256, .inl (fo))), (hpc, .inl (cB, 600, .inl (fp))), (h0, .inr (7, [.int 1, .int 1, .int (vI σ.go), .ref hbu, .int (nI σ.buf.length), .int (nI σ.nd), .ref hgo, .ref hfi, .ref hma, .ref hln, .ref hau, .ref hsu, .ref hrow, .ref hmade, .int z_madeSize, .ref hbase, .int z_baseSize, .ref htx9, .int z_textSize, .int σ.stp, .ref hot, .int z_otherSize, .ref hpc, .int z_pieceSize, .int z_at, .int z_end, .int z_value]))] := hD
    replace hK : va_K (dC, dI) vwCl [(cB, .byte), (cI, .int), (cL, .short), (cZ, .boolean)] s := hK
    obtain rfl : r_28 = 0 := hw
    refine lv_if_eq (tgt := 17) hx hb d_O_fetch_5 (by decide) (fun _ => ?_) (fun h9 => absurd h9 (by decide +kernel))
    refine lv_aload_n hx hb d_O_fetch_17 rfl (lv_at hl 0 rfl) ?_
    refine va_get (D := (dC, dI)) (ci := 7) (v := .int 1) (C := R_O) (T := F_O) (N := 27) hx hb hw0 in_O hown hK hP 13 rfl rfl 0 (by decide) (hw0 (.fieldLink R_O 62 "TextKeeperModel" "thrown" "I") wm_330) (fun _ h9 => h9) rfl d_O_fetch_18 ?_
    refine lv_if_ne (tgt := 28) hx hb d_O_fetch_21 (by decide) (fun _ => ?_) (fun h9 => absurd h9 (by decide +kernel))
    refine lv_iconst (v := 0) hx hb d_O_fetch_28 (by decide) ?_
    have hσ : (sFetch σ a1 a2) = (σ, 1, 0) := (by unfold sFetch; rw [if_pos hdw])
    have hP9 := hP.sub (ws' := [(h0, .inr (7, [.int 1, .int 1, .int (vI σ.go), .ref hbu, .int (nI σ.buf.length), .int (nI σ.nd), .ref hgo, .ref hfi, .ref hma, .ref hln, .ref hau, .ref hsu, .ref hrow, .ref hmade, .int z_madeSize, .ref hbase, .int z_baseSize, .ref htx9, .int z_textSize, .int σ.stp, .ref hot, .int z_otherSize, .ref hpc, .int z_pieceSize, .int z_at, .int z_end, .int z_value])), (hbu, .inl (cB, 256, .inl (fbu))), (hgo, .inl (cZ, 8, .inl (fg))), (hfi, .inl (cI, 8, .inl (ff))), (hma, .inl (cI, 8, .inl (fm))), (hln, .inl (cL, 512, .inl (fl))), (hau, .inl (cI, 512, .inl (fa))), (hsu, .inl (cI, 512, .inl (fs))), (hrow, .inl (cB, 16384, .inl (fr))), (hmade, .inl (cB, 256, .inl (f))), (hbase, .inl (cB, 256, .inl (fb))), (htx9, .inl (cB, 256, .inl (ft))), (hot, .inl (cB, 256, .inl (fo))), (hpc, .inl (cB, 600, .inl (fp)))]) [13, 0, 1, 2, 3, 4, 5, 6, 7, 8, 9, 10, 11, 12] rfl
    have hD9 := hD.sub (ws' := [(h0, .inr (7, [.int 1, .int 1, .int (vI σ.go), .ref hbu, .int (nI σ.buf.length), .int (nI σ.nd), .ref hgo, .ref hfi, .ref hma, .ref hln, .ref hau, .ref hsu, .ref hrow, .ref hmade, .int z_madeSize, .ref hbase, .int z_baseSize, .ref htx9, .int z_textSize, .int σ.stp, .ref hot, .int z_otherSize, .ref hpc, .int z_pieceSize, .int z_at, .int z_end, .int z_value])), (hbu, .inl (cB, 256, .inl (fbu))), (hgo, .inl (cZ, 8, .inl (fg))), (hfi, .inl (cI, 8, .inl (ff))), (hma, .inl (cI, 8, .inl (fm))), (hln, .inl (cL, 512, .inl (fl))), (hau, .inl (cI, 512, .inl (fa))), (hsu, .inl (cI, 512, .inl (fs))), (hrow, .inl (cB, 16384, .inl (fr))), (hmade, .inl (cB, 256, .inl (f))), (hbase, .inl (cB, 256, .inl (fb))), (htx9, .inl (cB, 256, .inl (ft))), (hot, .inl (cB, 256, .inl (fo))), (hpc, .inl (cB, 600, .inl (fp)))]) [13, 0, 1, 2, 3, 4, 5, 6, 7, 8, 9, 10, 11, 12] (by decide) rfl
    have hK9 := hK.sub (tys' := mT cB cI cL cZ) [0, 1, 2, 3] rfl
    exact W.iret (v := 0) hx hb hr (fun t ht hW => ⟨⟨0, (), rfl, (fun _ => (congrArg (fun z => z.2.2) hσ).symm), ⟨⟨hbu, hgo, hfi, hma, hln, hau, hsu, hrow, hmade, hbase, htx9, hot, hpc, 1, 1, (vI σ.go), (nI σ.buf.length), (nI σ.nd), z_madeSize, z_baseSize, z_textSize, σ.stp, z_otherSize, z_pieceSize, z_at, z_end, z_value, fbu, fg, ff, fm, fl, fa, fs, fr, f, fb, ft, fo, fp⟩, ⟨(by rw [hσ]; exact (mOk.mk hm_dw hm_la hm_sz hm_bf hm_nd hm_gn hm_fm hm_ln hm_rw hm_au hm_tq hm_st)), (congrArg (fun z => z.2.1) hσ).symm⟩, by rw [ht]; exact hP9, va_K.moved hW.alike hK9, hD9⟩⟩, hS.F ht⟩) hS.2.2 d_O_fetch_29
end
section
set_option maxHeartbeats 4000000 in
set_option maxRecDepth 100000 in
theorem lo_shu {p : Program} {l : Launch} {e : Env} {s : State} {m : MethodId} {args : Array Value} {below : List Frame} {meth : Method} {c : Code} {dC : Nat → ClassId} {dI : Nat → Nat → Nat} {A : Nat → Prop} {Q : State → Prop} {R : Room} (h0 : Nat) (i_thrown : Int32) (i_down : Int32) (i_lasts : Int32) (v_buffer : Value) (i_size : Int32) (i_documents : Int32) (v_gone : Value) (v_first : Value) (v_many : Value) (v_lengths : Value) (v_authors : Value) (v_sums : Value) (v_made : Value) (i_madeSize : Int32) (v_base : Value) (i_baseSize : Int32) (v_text : Value) (i_textSize : Int32) (i_textSteps : Int32) (v_other : Value) (i_otherSize : Int32) (v_piece : Value) (i_at : Int32) (i_end : Int32) (i_value : Int32) (hrow : Nat) (cB : ClassId) (fr : Nat → Int32) (n9 : Nat) (b9 : Nat) (pl : va_W) (d9 : Nat) (a2 : Int32) (r9 : Nat) (q9 : Nat) (hbn : b9 + n9 ≤ 16384)
    (hx : p.tables.exec = Jvm.exec) (hb : c.code = prog_9_method_27_code) (hml : c.maxLocals = 7) (hown : s.vm.findClass R_O = some m.cls) (hw0 : ∀ w ∈ w0, w.before args s = true) (hN : nw_ok s) (hK : va_K (dC, dI) vwCl [(cB, .byte)] s) (hA : ∀ q : Nat, s.heap.size ≤ q → A q)
    (kk : ∀ (H : Heap) (locs : List Loc), va_P (dC, dI) vwCl (([(h0, .inr (7, [.int i_thrown, .int i_down, .int i_lasts, v_buffer, .int i_size, .int i_documents, v_gone, v_first, v_many, v_lengths, v_authors, v_sums, .ref hrow, v_made, .int i_madeSize, v_base, .int i_baseSize, v_text, .int i_textSize, .int i_textSteps, v_other, .int i_otherSize, v_piece, .int (nI n9), .int i_at, .int i_end, .int i_value])), (hrow, .inl (cB, 16384, .inl ((shu fr n9 (16384 - (16384 - (b9 + n9)))))))] : va_W) ++ pl) H → va_D A (([(h0, .inr (7, [.int i_thrown, .int i_down, .int i_lasts, v_buffer, .int i_size, .int i_documents, v_gone, v_first, v_many, v_lengths, v_authors, v_sums, .ref hrow, v_made, .int i_madeSize, v_base, .int i_baseSize, v_text, .int i_textSize, .int i_textSteps, v_other, .int i_otherSize, v_piece, .int (nI n9), .int i_at, .int i_end, .int i_value])), (hrow, .inl (cB, 16384, .inl ((shu fr n9 (16384 - (16384 - (b9 + n9)))))))] : va_W) ++ pl) → va_S A s.heap H locs → ∀ ls : Array Slot, lv_has ls 7 [(6, .int (nwI (16384 - (16384 - (b9 + n9))))), (0, .ref h0), (1, .int (nI d9)), (2, .int a2), (3, .int (nI r9)), (4, .int (nI q9)), (5, .int (nI b9))] → W p l e R s m args below meth c H locs 0 0 Q (F0 m 167 ls [])) :
    ∀ (n j : Nat), j ≤ (16384 - (b9 + n9)) → (16384 - (b9 + n9)) < j + n → ∀ (H : Heap) (locs : List Loc), va_P (dC, dI) vwCl (([(h0, .inr (7, [.int i_thrown, .int i_down, .int i_lasts, v_buffer, .int i_size, .int i_documents, v_gone, v_first, v_many, v_lengths, v_authors, v_sums, .ref hrow, v_made, .int i_madeSize, v_base, .int i_baseSize, v_text, .int i_textSize, .int i_textSteps, v_other, .int i_otherSize, v_piece, .int (nI n9), .int i_at, .int i_end, .int i_value])), (hrow, .inl (cB, 16384, .inl ((shu fr n9 (16384 - j)))))] : va_W) ++ pl) H → va_D A (([(h0, .inr (7, [.int i_thrown, .int i_down, .int i_lasts, v_buffer, .int i_size, .int i_documents, v_gone, v_first, v_many, v_lengths, v_authors, v_sums, .ref hrow, v_made, .int i_madeSize, v_base, .int i_baseSize, v_text, .int i_textSize, .int i_textSteps, v_other, .int i_otherSize, v_piece, .int (nI n9), .int i_at, .int i_end, .int i_value])), (hrow, .inl (cB, 16384, .inl ((shu fr n9 (16384 - j)))))] : va_W) ++ pl) → va_S A s.heap H locs → ∀ ls : Array Slot, lv_has ls 7 [(6, .int (nwI (16384 - j))), (0, .ref h0), (1, .int (nI d9)), (2, .int a2), (3, .int (nI r9)), (4, .int (nI q9)), (5, .int (nI b9))] → W p l e R s m args below meth c H locs 0 0 Q (F0 m 130 ls []) := by
  intro n
  induction n with
  | zero => intro j h1 h2; exact absurd h2 (by omega)
  | succ n ih =>
    intro j hj hn   H locs hP hD hS ls hl
    refine lv_iload hx hb d_O_commit_130 (lv_at hl 0 rfl) ?_
    refine lv_iload hx hb d_O_commit_132 (lv_at hl 6 rfl) ?_
    refine lv_aload_n hx hb d_O_commit_134 rfl (lv_at hl 1 rfl) ?_
    refine va_get (D := (dC, dI)) (ci := 7) (v := .int (nI n9)) (C := R_O) (T := F_O) (N := 27) hx hb hw0 in_O hown hK hP 0 rfl rfl 23 (by decide) (hw0 (.fieldLink R_O 125 "TextKeeperModel" "pieceSize" "I") wm_239) (fun _ h9 => h9) rfl d_O_commit_135 ?_
    refine lv_iadd hx hb d_O_commit_138 ?_
    refine lv_topi (fun x_1 ex_1 => ?_)
    obtain rfl : x_1 = (nI (b9 + n9)) := by rw [ex_1]; exact nI_add _ _
    clear ex_1
    refine lv_icmp_lt (tgt := 167) hx hb d_O_commit_139 (by decide) (fun c_2 => ?_) (fun c_2 => ?_)
    · obtain rfl : j = 16384 - (b9 + n9) := (by have h8 := (nwI_lt (by omega) (by omega)).mp c_2; omega)
      exact kk _ _ hP hD hS ls (lv_sub hl [0, 1, 2, 3, 4, 5, 6] rfl)
    · have hg8 : ¬ 16384 - j ≤ b9 + n9 := (fun z => c_2 ((nwI_lt (by omega) (by omega)).mpr z)); obtain ⟨k8, hk8⟩ : ∃ z, 16384 - j = z + 1 := ⟨16384 - j - 1, by omega⟩; have ek8 : nwI (16384 - j) = nI k8 := (by rw [hk8]; rfl)
      refine lv_aload_n hx hb d_O_commit_142 rfl (lv_at hl 1 rfl) ?_
      refine va_get (D := (dC, dI)) (ci := 7) (v := .ref hrow) (C := R_O) (T := F_O) (N := 27) hx hb hw0 in_O hown hK hP 0 rfl rfl 12 (by decide) (hw0 (.fieldLink R_O 38 "TextKeeperModel" "row" "[B") wm_264) (fun _ h9 => h9) rfl d_O_commit_143 ?_
      refine lv_iload hx hb d_O_commit_146 (lv_at hl 0 rfl) ?_
      refine lv_aload_n hx hb d_O_commit_148 rfl (lv_at hl 1 rfl) ?_
      refine va_get (D := (dC, dI)) (ci := 7) (v := .ref hrow) (C := R_O) (T := F_O) (N := 27) hx hb hw0 in_O hown hK hP 0 rfl rfl 12 (by decide) (hw0 (.fieldLink R_O 38 "TextKeeperModel" "row" "[B") wm_264) (fun _ h9 => h9) rfl d_O_commit_149 ?_
      refine lv_iload hx hb d_O_commit_152 (lv_at hl 0 rfl) ?_
      refine lv_aload_n hx hb d_O_commit_154 rfl (lv_at hl 1 rfl) ?_
      refine va_get (D := (dC, dI)) (ci := 7) (v := .int (nI n9)) (C := R_O) (T := F_O) (N := 27) hx hb hw0 in_O hown hK hP 0 rfl rfl 23 (by decide) (hw0 (.fieldLink R_O 125 "TextKeeperModel" "pieceSize" "I") wm_239) (fun _ h9 => h9) rfl d_O_commit_155 ?_
      refine lv_isub hx hb d_O_commit_158 ?_
      refine lv_topi (fun x_3 ex_3 => ?_)
      obtain rfl : x_3 = (nI (k8 - n9)) := by rw [ex_3]; rw [ek8]; exact pk_sub (by omega)
      clear ex_3
      refine va_bald hx hb hK hP 1 0 rfl rfl (vp_in_nI (by omega) (by decide)) d_O_commit_159 ?_
      refine lv_topi (fun x_4 ex_4 => ?_)
      refine va_bast hx hb hK hP hD hS 1 0 rfl rfl (by rw [ek8]; exact vp_in_nI (by omega) (by decide)) d_O_commit_160 (fun H locs hP hD hS => ?_)
      replace hP : va_P (dC, dI) vwCl (([(h0, .inr (7, [.int i_thrown, .int i_down, .int i_lasts, v_buffer, .int i_size, .int i_documents, v_gone, v_first, v_many, v_lengths, v_authors, v_sums, .ref hrow, v_made, .int i_madeSize, v_base, .int i_baseSize, v_text, .int i_textSize, .int i_textSteps, v_other, .int i_otherSize, v_piece, .int (nI n9), .int i_at, .int i_end, .int i_value])), (hrow, .inl (cB, 16384, .inl (upd ((shu fr n9 (16384 - j))) (Int32.toNatClampNeg (nwI (16384 - j))) (vp_nar .byte (x_4)))))] : va_W) ++ pl) H := hP
      replace hD : va_D A (([(h0, .inr (7, [.int i_thrown, .int i_down, .int i_lasts, v_buffer, .int i_size, .int i_documents, v_gone, v_first, v_many, v_lengths, v_authors, v_sums, .ref hrow, v_made, .int i_madeSize, v_base, .int i_baseSize, v_text, .int i_textSize, .int i_textSteps, v_other, .int i_otherSize, v_piece, .int (nI n9), .int i_at, .int i_end, .int i_value])), (hrow, .inl (cB, 16384, .inl (upd ((shu fr n9 (16384 - j))) (Int32.toNatClampNeg (nwI (16384 - j))) (vp_nar .byte (x_4)))))] : va_W) ++ pl) := hD
      have eS : upd ((shu fr n9 (16384 - j))) (Int32.toNatClampNeg (nwI (16384 - j))) (vp_nar .byte (x_4)) = shu fr n9 (16384 - (j + 1)) := by rw [ek8, nI_clamp (by omega), show vp_nar .byte x_4 = nbb x_4 from vp_nar_byte x_4, ex_4, nI_clamp (by omega), show 16384 - (j + 1) = k8 by omega]; exact shu_1 hk8 (by omega)
      rw [eS] at hP hD
      obtain ⟨x_5, ex_5⟩ : ∃ y : Int32, y = (nwI (16384 - j)) + (-1) := ⟨_, rfl⟩
      refine lv_iinc (v := x_5) (lv' := [(6, .int x_5), (0, .ref h0), (1, .int (nI d9)), (2, .int a2), (3, .int (nI r9)), (4, .int (nI q9)), (5, .int (nI b9))]) hx hb d_O_commit_161 hl (k := 0) rfl (by rw [ex_5]; rfl) (by decide) rfl (fun ls hl => ?_)
      refine lv_goto (tgt := 130) hx hb d_O_commit_164 (by decide) ?_
      have e3 : x_5 = nwI (16384 - (j + 1)) := by rw [ex_5, ek8, show 16384 - (j + 1) = k8 by omega]; exact nwI_dec k8
      exact ih (j + 1) (by omega) (by omega) _ _ hP hD hS ls (by rw [← e3]; exact (lv_sub hl [0, 1, 2, 3, 4, 5, 6] rfl))
set_option maxHeartbeats 4000000 in
set_option maxRecDepth 100000 in
theorem lo_cpw {p : Program} {l : Launch} {e : Env} {s : State} {m : MethodId} {args : Array Value} {below : List Frame} {meth : Method} {c : Code} {dC : Nat → ClassId} {dI : Nat → Nat → Nat} {A : Nat → Prop} {Q : State → Prop} {R : Room} (h0 : Nat) (i_thrown : Int32) (i_down : Int32) (i_lasts : Int32) (v_buffer : Value) (i_size : Int32) (i_documents : Int32) (v_gone : Value) (v_first : Value) (v_many : Value) (v_lengths : Value) (v_authors : Value) (v_sums : Value) (v_made : Value) (i_madeSize : Int32) (v_base : Value) (i_baseSize : Int32) (v_text : Value) (i_textSize : Int32) (i_textSteps : Int32) (v_other : Value) (i_otherSize : Int32) (i_at : Int32) (i_end : Int32) (i_value : Int32) (hrow : Nat) (cB : ClassId) (g : Nat → Int32) (hpc : Nat) (fp : Nat → Int32) (n9 : Nat) (b9 : Nat) (pl : va_W) (d9 : Nat) (a2 : Int32) (r9 : Nat) (q9 : Nat) (hbn : b9 + n9 ≤ 16384) (hn9 : n9 ≤ 514)
    (hx : p.tables.exec = Jvm.exec) (hb : c.code = prog_9_method_27_code) (hml : c.maxLocals = 7) (hown : s.vm.findClass R_O = some m.cls) (hw0 : ∀ w ∈ w0, w.before args s = true) (hN : nw_ok s) (hK : va_K (dC, dI) vwCl [(cB, .byte)] s) (hA : ∀ q : Nat, s.heap.size ≤ q → A q)
    (kk : ∀ (H : Heap) (locs : List Loc), va_P (dC, dI) vwCl (([(h0, .inr (7, [.int i_thrown, .int i_down, .int i_lasts, v_buffer, .int i_size, .int i_documents, v_gone, v_first, v_many, v_lengths, v_authors, v_sums, .ref hrow, v_made, .int i_madeSize, v_base, .int i_baseSize, v_text, .int i_textSize, .int i_textSteps, v_other, .int i_otherSize, .ref hpc, .int (nI n9), .int i_at, .int i_end, .int i_value])), (hrow, .inl (cB, 16384, .inl ((cpw g fp b9 n9)))), (hpc, .inl (cB, 600, .inl (fp)))] : va_W) ++ pl) H → va_D A (([(h0, .inr (7, [.int i_thrown, .int i_down, .int i_lasts, v_buffer, .int i_size, .int i_documents, v_gone, v_first, v_many, v_lengths, v_authors, v_sums, .ref hrow, v_made, .int i_madeSize, v_base, .int i_baseSize, v_text, .int i_textSize, .int i_textSteps, v_other, .int i_otherSize, .ref hpc, .int (nI n9), .int i_at, .int i_end, .int i_value])), (hrow, .inl (cB, 16384, .inl ((cpw g fp b9 n9)))), (hpc, .inl (cB, 600, .inl (fp)))] : va_W) ++ pl) → va_S A s.heap H locs → ∀ ls : Array Slot, lv_has ls 7 [(6, .int (nI n9)), (0, .ref h0), (1, .int (nI d9)), (2, .int a2), (3, .int (nI r9)), (4, .int (nI q9)), (5, .int (nI b9))] → W p l e R s m args below meth c H locs 0 0 Q (F0 m 202 ls [])) :
    ∀ (n j : Nat), j ≤ n9 → n9 < j + n → ∀ (H : Heap) (locs : List Loc), va_P (dC, dI) vwCl (([(h0, .inr (7, [.int i_thrown, .int i_down, .int i_lasts, v_buffer, .int i_size, .int i_documents, v_gone, v_first, v_many, v_lengths, v_authors, v_sums, .ref hrow, v_made, .int i_madeSize, v_base, .int i_baseSize, v_text, .int i_textSize, .int i_textSteps, v_other, .int i_otherSize, .ref hpc, .int (nI n9), .int i_at, .int i_end, .int i_value])), (hrow, .inl (cB, 16384, .inl ((cpw g fp b9 j)))), (hpc, .inl (cB, 600, .inl (fp)))] : va_W) ++ pl) H → va_D A (([(h0, .inr (7, [.int i_thrown, .int i_down, .int i_lasts, v_buffer, .int i_size, .int i_documents, v_gone, v_first, v_many, v_lengths, v_authors, v_sums, .ref hrow, v_made, .int i_madeSize, v_base, .int i_baseSize, v_text, .int i_textSize, .int i_textSteps, v_other, .int i_otherSize, .ref hpc, .int (nI n9), .int i_at, .int i_end, .int i_value])), (hrow, .inl (cB, 16384, .inl ((cpw g fp b9 j)))), (hpc, .inl (cB, 600, .inl (fp)))] : va_W) ++ pl) → va_S A s.heap H locs → ∀ ls : Array Slot, lv_has ls 7 [(6, .int (nI j)), (0, .ref h0), (1, .int (nI d9)), (2, .int a2), (3, .int (nI r9)), (4, .int (nI q9)), (5, .int (nI b9))] → W p l e R s m args below meth c H locs 0 0 Q (F0 m 170 ls []) := by
  intro n
  induction n with
  | zero => intro j h1 h2; exact absurd h2 (by omega)
  | succ n ih =>
    intro j hj hn   H locs hP hD hS ls hl
    refine lv_iload hx hb d_O_commit_170 (lv_at hl 0 rfl) ?_
    refine lv_aload_n hx hb d_O_commit_172 rfl (lv_at hl 1 rfl) ?_
    refine va_get (D := (dC, dI)) (ci := 7) (v := .int (nI n9)) (C := R_O) (T := F_O) (N := 27) hx hb hw0 in_O hown hK hP 0 rfl rfl 23 (by decide) (hw0 (.fieldLink R_O 125 "TextKeeperModel" "pieceSize" "I") wm_239) (fun _ h9 => h9) rfl d_O_commit_173 ?_
    refine lv_icmp_ge (tgt := 202) hx hb d_O_commit_176 (by decide) (fun c_1 => ?_) (fun c_1 => ?_)
    · obtain rfl : j = n9 := x_geN (by omega) hj c_1
      exact kk _ _ hP hD hS ls (lv_sub hl [0, 1, 2, 3, 4, 5, 6] rfl)
    · have hlt : j < n9 := x_ltN (by omega) hj c_1
      refine lv_aload_n hx hb d_O_commit_179 rfl (lv_at hl 1 rfl) ?_
      refine va_get (D := (dC, dI)) (ci := 7) (v := .ref hrow) (C := R_O) (T := F_O) (N := 27) hx hb hw0 in_O hown hK hP 0 rfl rfl 12 (by decide) (hw0 (.fieldLink R_O 38 "TextKeeperModel" "row" "[B") wm_264) (fun _ h9 => h9) rfl d_O_commit_180 ?_
      refine lv_iload hx hb d_O_commit_183 (lv_at hl 6 rfl) ?_
      refine lv_iload hx hb d_O_commit_185 (lv_at hl 0 rfl) ?_
      refine lv_iadd hx hb d_O_commit_187 ?_
      refine lv_topi (fun x_2 ex_2 => ?_)
      obtain rfl : x_2 = (nI (b9 + j)) := by rw [ex_2]; exact nI_add _ _
      clear ex_2
      refine lv_aload_n hx hb d_O_commit_188 rfl (lv_at hl 1 rfl) ?_
      refine va_get (D := (dC, dI)) (ci := 7) (v := .ref hpc) (C := R_O) (T := F_O) (N := 27) hx hb hw0 in_O hown hK hP 0 rfl rfl 22 (by decide) (hw0 (.fieldLink R_O 59 "TextKeeperModel" "piece" "[B") wm_238) (fun _ h9 => h9) rfl d_O_commit_189 ?_
      refine lv_iload hx hb d_O_commit_192 (lv_at hl 0 rfl) ?_
      refine va_bald hx hb hK hP 2 0 rfl rfl (vp_in_nI (by omega) (by decide)) d_O_commit_194 ?_
      refine lv_topi (fun x_3 ex_3 => ?_)
      refine va_bast hx hb hK hP hD hS 1 0 rfl rfl (vp_in_nI (by omega) (by decide)) d_O_commit_195 (fun H locs hP hD hS => ?_)
      replace hP : va_P (dC, dI) vwCl (([(h0, .inr (7, [.int i_thrown, .int i_down, .int i_lasts, v_buffer, .int i_size, .int i_documents, v_gone, v_first, v_many, v_lengths, v_authors, v_sums, .ref hrow, v_made, .int i_madeSize, v_base, .int i_baseSize, v_text, .int i_textSize, .int i_textSteps, v_other, .int i_otherSize, .ref hpc, .int (nI n9), .int i_at, .int i_end, .int i_value])), (hrow, .inl (cB, 16384, .inl (upd ((cpw g fp b9 j)) (Int32.toNatClampNeg (nI (b9 + j))) (vp_nar .byte (x_3))))), (hpc, .inl (cB, 600, .inl (fp)))] : va_W) ++ pl) H := hP
      replace hD : va_D A (([(h0, .inr (7, [.int i_thrown, .int i_down, .int i_lasts, v_buffer, .int i_size, .int i_documents, v_gone, v_first, v_many, v_lengths, v_authors, v_sums, .ref hrow, v_made, .int i_madeSize, v_base, .int i_baseSize, v_text, .int i_textSize, .int i_textSteps, v_other, .int i_otherSize, .ref hpc, .int (nI n9), .int i_at, .int i_end, .int i_value])), (hrow, .inl (cB, 16384, .inl (upd ((cpw g fp b9 j)) (Int32.toNatClampNeg (nI (b9 + j))) (vp_nar .byte (x_3))))), (hpc, .inl (cB, 600, .inl (fp)))] : va_W) ++ pl) := hD
      have eS : upd ((cpw g fp b9 j)) (Int32.toNatClampNeg (nI (b9 + j))) (vp_nar .byte (x_3)) = cpw g fp b9 (j + 1) := by rw [nI_clamp (by omega), show vp_nar .byte x_3 = nbb x_3 from vp_nar_byte x_3, ex_3, nI_clamp (by omega)]; exact cpw_1
      rw [eS] at hP hD
      refine lv_iinc (v := nI (j + 1)) (lv' := [(6, .int (nI (j + 1))), (0, .ref h0), (1, .int (nI d9)), (2, .int a2), (3, .int (nI r9)), (4, .int (nI q9)), (5, .int (nI b9))]) hx hb d_O_commit_196 hl (k := 0) rfl (nI_1 j) (by decide) rfl (fun ls hl => ?_)
      refine lv_goto (tgt := 170) hx hb d_O_commit_199 (by decide) ?_
      exact ih (j + 1) hlt (by omega) _ _ hP hD hS ls (lv_sub hl [0, 1, 2, 3, 4, 5, 6] rfl)
end
