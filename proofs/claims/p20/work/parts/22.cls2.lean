set_option maxHeartbeats 4000000 in
set_option maxRecDepth 100000 in
theorem lq_cfr {p : Program} {l : Launch} {e : Env} {s : State} {m : MethodId} {args : Array Value} {below : List Frame} {meth : Method} {c : Code} {dC : Nat → ClassId} {dI : Nat → Nat → Nat} {Q : State → Prop} {H : Heap} {locs : List Loc} (h0 : Nat) (v_buffer : Value) (v_fetched : Value) (v_compared : Value) (v_maker : Value) (v_writer : Value) (v_power : Value) (i_madeDocuments : Int32) (i_fetchedSteps : Int32) (hd : Nat) (cD : ClassId) (cR : ClassId) (cB : ClassId) (ds : Nat → Option Dc) (pl : va_W) (hpd : plD cB cR ds pl) (hdk : dsOk ds)
    (hx : p.tables.exec = Jvm.exec) (hb : c.code = prog_1_method_26_code) (hml : c.maxLocals = 6) (hown : s.vm.findClass R_K = some m.cls) (hw0 : ∀ w ∈ w0, w.before args s = true) (hN : nw_ok s) (hK : va_K (dC, dI) vwCl [(cD, .object R_D), (cR, .object R_V), (cB, .byte)] s) (hP : va_P (dC, dI) vwCl (([(h0, .inr (0, [.ref hd, v_buffer, v_fetched, v_compared, v_maker, v_writer, v_power, .int i_madeDocuments, .int i_fetchedSteps])), (hd, .inl (cD, 8, .inr (.inr (.inr (.inr ((dsA ds)))))))] : va_W) ++ pl) H)
    (kk : ∀ ls : Array Slot, lv_has ls 6 [(4, .int (nI 8)), (1, .int (512 - nI (cfr ds 8))), (2, .ref hd), (3, .int 8), (0, .ref h0)] → W p l e ({ frames := 2, cells := 0, slots := 0, locals := 42 } : Room) s m args below meth c H locs 0 0 Q (F0 m 46 ls [])) :
    ∀ (n j : Nat), j ≤ 8 → 8 < j + n → ∀ ls : Array Slot, lv_has ls 6 [(4, .int (nI j)), (1, .int (512 - nI (cfr ds j))), (2, .ref hd), (3, .int 8), (0, .ref h0)] → W p l e ({ frames := 2, cells := 0, slots := 0, locals := 42 } : Room) s m args below meth c H locs 0 0 Q (F0 m 15 ls []) := by
  intro n
  induction n with
  | zero => intro j  h1 h2; exact absurd h2 (by omega)
  | succ n ih =>
    intro j  hj hn  ls hl
    refine lv_iload hx hb d_K_countFree_15 (lv_at hl 0 rfl) ?_
    refine lv_iload_n hx hb d_K_countFree_17 rfl (lv_at hl 3 rfl) ?_
    refine lv_icmp_ge (tgt := 46) hx hb d_K_countFree_18 (by decide) (fun c_1 => ?_) (fun c_1 => ?_)
    · obtain rfl : j = 8 := x_geN (by omega) hj c_1
      exact kk ls (lv_sub hl [0, 1, 2, 3, 4] rfl)
    · have hlt : j < 8 := x_ltN (by omega) hj c_1
      rcases hq9 : ds j with _ | ⟨da9, dra9, df9, dn9, drv9⟩
      · have hn9 := dsA_n hq9
        refine lv_aload_n hx hb d_K_countFree_21 rfl (lv_at hl 2 rfl) ?_
        refine lv_iload hx hb d_K_countFree_22 (lv_at hl 0 rfl) ?_
        refine va_aldq hx hb hK hP 1 0 rfl rfl (vp_in_nI (by omega) (by decide)) d_K_countFree_24 ?_
        refine W.eq (g2 := F0 m 25 ls [.null]) (by rw [show ((dsA ds)) (Int32.toNatClampNeg (nI j)) = none from (by rw [nI_clamp (by omega)]; exact hn9)]; rfl) ?_
        refine lv_astoreN (lv' := [(5, .null), (4, .int (nI j)), (1, .int (512 - nI (cfr ds j))), (2, .ref hd), (3, .int 8), (0, .ref h0)]) hx hb d_K_countFree_25 hl (by decide) rfl (fun ls hl => ?_)
        refine lv_aloadN hx hb d_K_countFree_27 (lv_at hl 0 rfl) ?_
        refine lv_ifnullN (tgt := 40) hx hb d_K_countFree_29 (by decide) ?_
        refine lv_iinc (v := nI (j + 1)) (lv' := [(4, .int (nI (j + 1))), (5, .null), (1, .int (512 - nI (cfr ds j))), (2, .ref hd), (3, .int 8), (0, .ref h0)]) hx hb d_K_countFree_40 hl (k := 1) rfl (nI_1 j) (by decide) rfl (fun ls hl => ?_)
        refine lv_goto (tgt := 15) hx hb d_K_countFree_43 (by decide) ?_
        exact ih (j + 1) hlt (by omega) ls (by rw [cfr_n hq9]; exact (lv_sub hl [0, 2, 3, 4, 5] rfl))
      · have hn9 := dsA_s hq9
        obtain ⟨pl8, hp8, hpl8⟩ := hpd j _ (by omega) hq9
        have hP := hP.perm (pl_take hp8)
        replace hP : va_P (dC, dI) vwCl (([(h0, .inr (0, [.ref hd, v_buffer, v_fetched, v_compared, v_maker, v_writer, v_power, .int i_madeDocuments, .int i_fetchedSteps])), (hd, .inl (cD, 8, .inr (.inr (.inr (.inr ((dsA ds))))))), (da9, .inr (5, [.ref dra9, .int (nI df9), .int (nI dn9)])), (dra9, .inl (cR, 64, .inr (.inr (.inr (.inr ((rvA drv9)))))))] : va_W) ++ pl8) H := hP
        have ho9 := hdk j _ hq9
        have hdn9 : dn9 ≤ 64 := ho9.1
        have hok9 : rvOk drv9 := ho9.2
        refine lv_aload_n hx hb d_K_countFree_21 rfl (lv_at hl 2 rfl) ?_
        refine lv_iload hx hb d_K_countFree_22 (lv_at hl 0 rfl) ?_
        refine va_aldq hx hb hK hP 1 0 rfl rfl (vp_in_nI (by omega) (by decide)) d_K_countFree_24 ?_
        refine W.eq (g2 := F0 m 25 ls [.ref da9]) (by rw [show ((dsA ds)) (Int32.toNatClampNeg (nI j)) = some da9 from (by rw [nI_clamp (by omega)]; exact hn9)]; rfl) ?_
        refine lv_astore (lv' := [(5, .ref da9), (4, .int (nI j)), (1, .int (512 - nI (cfr ds j))), (2, .ref hd), (3, .int 8), (0, .ref h0)]) hx hb d_K_countFree_25 hl (by decide) rfl (fun ls hl => ?_)
        refine lv_aload hx hb d_K_countFree_27 (lv_at hl 0 rfl) ?_
        refine lv_ifnull hx hb d_K_countFree_29 ?_
        refine lv_iload_n hx hb d_K_countFree_32 rfl (lv_at hl 2 rfl) ?_
        refine lv_aload hx hb d_K_countFree_33 (lv_at hl 0 rfl) ?_
        have hPc := hP.part (cx := [(da9, .inr (5, [.ref dra9, .int (nI df9), .int (nI dn9)])), (dra9, .inl (cR, 64, .inr (.inr (.inr (.inr ((rvA drv9)))))))]) [2, 3] rfl
        have hKc := hK.sub (tys' := [(cR, .object R_V), (cB, .byte)]) [1, 2] rfl
        refine ps_i (va_runV (As := []) (rest := [.int (512 - nI (cfr ds j))]) ⟨hx, hb, hml, hown, hw0⟩ (g_countBlocks l dC dI da9 dra9 cR df9 dn9 _ drv9 pl8 (by first | assumption | decide | omega) (by first | assumption | decide | omega) (by first | assumption | decide | omega)) (cwV 0 hw0 (gd_V 362 363 364 233 365 rfl rfl rfl rfl rfl) rfl rfl rfl (by decide +kernel) ⟨by decide +kernel, by decide +kernel⟩) (prV_R hPc hKc hN (va_recv hKc hPc (ci := 5) (q0 := 0) rfl rfl)) rfl rfl hl.1 rfl (lv_room (Nat.le_of_ble_eq_true rfl)) d_K_countFree_35 ⟨by decide +kernel, by decide +kernel⟩) (fun r_2 hr_2 => ?_)
        obtain rfl : r_2 = (nI (cbk (rvP drv9) dn9)) := hr_2
        refine lv_isub hx hb d_K_countFree_38 ?_
        refine lv_topi (fun x_3 ex_3 => ?_)
        obtain rfl : x_3 = (512 - nI (cfr ds j + cbk (rvP drv9) dn9)) := by rw [ex_3]; rw [Int32.sub_sub, nI_add]
        clear ex_3
        refine lv_istore_n (lv' := [(1, .int (512 - nI (cfr ds j + cbk (rvP drv9) dn9))), (5, .ref da9), (4, .int (nI j)), (2, .ref hd), (3, .int 8), (0, .ref h0)]) hx hb d_K_countFree_39 rfl hl (by decide) rfl (fun ls hl => ?_)
        refine lv_iinc (v := nI (j + 1)) (lv' := [(4, .int (nI (j + 1))), (1, .int (512 - nI (cfr ds j + cbk (rvP drv9) dn9))), (5, .ref da9), (2, .ref hd), (3, .int 8), (0, .ref h0)]) hx hb d_K_countFree_40 hl (k := 2) rfl (nI_1 j) (by decide) rfl (fun ls hl => ?_)
        refine lv_goto (tgt := 15) hx hb d_K_countFree_43 (by decide) ?_
        exact ih (j + 1) hlt (by omega) ls (by rw [cfr_s hq9]; exact (lv_sub hl [0, 1, 3, 4, 5] rfl))
set_option maxHeartbeats 4000000 in
set_option maxRecDepth 100000 in
theorem g_countFree (l : Launch) (dC : Nat → ClassId) (dI : Nat → Nat → Nat) (h0 : Nat) (v_buffer : Value) (v_fetched : Value) (v_compared : Value) (v_maker : Value) (v_writer : Value) (v_power : Value) (i_madeDocuments : Int32) (i_fetchedSteps : Int32) (hd : Nat) (cD : ClassId) (cR : ClassId) (cB : ClassId) (ds : Nat → Option Dc) (pl : va_W) (hpd : plD cB cR ds pl) (hdk : dsOk ds) (hus : cfr ds 8 ≤ 512) : Met l y_K_countFree k_K_countFree ({ frames := 2, cells := 0, slots := 0, locals := 42 } : Room) (va_Pc [.ref h0] (pc_R (dC, dI) (([(h0, .inr (0, [.ref hd, v_buffer, v_fetched, v_compared, v_maker, v_writer, v_power, .int i_madeDocuments, .int i_fetchedSteps])), (hd, .inl (cD, 8, .inr (.inr (.inr (.inr ((dsA ds)))))))] : va_W) ++ pl) [(cD, .object R_D), (cR, .object R_V), (cB, .byte)])) (vp_Si (fun r => r = nI (512 - cfr ds 8))) 0 0 (fun _ => False) := by
  refine Met.ofW (cc := prog_1_method_26_code) (maxL := 6) (ret := (some .int)) (by decide) rfl ?_
  intro p e s m args below meth c s₁ B hml hv
  obtain ⟨rfl, hP, hK, hN⟩ := hv
  have hx := B.exec
  have hb := B.bytes
  have hr := B.returns
  have hts := atoms_spec (ws := k_K_countFree) B.pre
  have hw0 : ∀ w ∈ w0, w.before _ s = true := fun w h => hts w (List.mem_cons_of_mem _ h)
  have hown : s.vm.findClass R_K = some m.cls := findClass_of_methodNamed B.named
  have hlocks := B.notSynchronized
  have hP : va_P (dC, dI) vwCl (([(h0, .inr (0, [.ref hd, v_buffer, v_fetched, v_compared, v_maker, v_writer, v_power, .int i_madeDocuments, .int i_fetchedSteps])), (hd, .inl (cD, 8, .inr (.inr (.inr (.inr ((dsA ds)))))))] : va_W) ++ pl) s.heap := hP
  have hl := lv_entry ([.ref h0]) (n := 6) (Nat.le_of_ble_eq_true rfl)
  rw [lg_entry_eq]
  generalize (lg_sl ([.ref h0]) ++ List.replicate (6 - (lg_sl ([.ref h0])).length) Slot.unset).toArray = ls at hl ⊢
  have hl : lv_has ls 6 [(0, .ref h0)] := hl
  refine lv_sipush (v := 512) hx hb d_K_countFree_0 (by decide +kernel) ?_
  refine lv_istore_n (lv' := [(1, .int 512), (0, .ref h0)]) hx hb d_K_countFree_3 rfl hl (by decide) rfl (fun ls hl => ?_)
  refine lv_aload_n hx hb d_K_countFree_4 rfl (lv_at hl 1 rfl) ?_
  refine va_get (D := (dC, dI)) (ci := 0) (v := .ref hd) (C := R_K) (T := F_K) (N := 9) hx hb hw0 in_K hown hK hP 0 rfl rfl 0 (by decide) (hw0 (.fieldLink R_K 11 "TextKeeper" "documents" "[LTextKeeper$Document;") (List.mem_of_getElem? (i := 79) rfl)) (fun _ h9 => h9) rfl d_K_countFree_5 ?_
  refine lv_astore_n (lv' := [(2, .ref hd), (1, .int 512), (0, .ref h0)]) hx hb d_K_countFree_8 rfl hl (by decide) rfl (fun ls hl => ?_)
  refine lv_aload_n hx hb d_K_countFree_9 rfl (lv_at hl 0 rfl) ?_
  refine va_alen (v := 8) hx hb hK hP 1 0 rfl rfl (show Int32.ofNat 8 = 8 from by decide +kernel) d_K_countFree_10 ?_
  refine lv_istore_n (lv' := [(3, .int 8), (2, .ref hd), (1, .int 512), (0, .ref h0)]) hx hb d_K_countFree_11 rfl hl (by decide) rfl (fun ls hl => ?_)
  refine lv_iconst (v := 0) hx hb d_K_countFree_12 (by decide) ?_
  refine lv_istore (lv' := [(4, .int 0), (3, .int 8), (2, .ref hd), (1, .int 512), (0, .ref h0)]) hx hb d_K_countFree_13 hl (by decide) rfl (fun ls hl => ?_)
  refine lq_cfr h0 v_buffer v_fetched v_compared v_maker v_writer v_power i_madeDocuments i_fetchedSteps hd cD cR cB ds pl hpd hdk hx hb hml hown hw0 hN hK hP (fun ls hl => ?_) 9 0 (by omega) (by omega) ls (by rw [cfr_z]; exact (lv_sub hl [0, 3, 2, 1, 4] rfl))
  refine lv_iload_n hx hb d_K_countFree_46 rfl (lv_at hl 1 rfl) ?_
  exact W.iret (v := (512 - nI (cfr ds 8))) hx hb hr (fun t ht hW => ⟨(512 - nI (cfr ds 8)), rfl, (pk_sub hus), ht⟩) (fun q h => by cases h) d_K_countFree_47
set_option maxHeartbeats 4000000 in
set_option maxRecDepth 100000 in
theorem g_freeBlocks (l : Launch) (dC : Nat → ClassId) (dI : Nat → Nat → Nat) (h0 : Nat) (v_buffer : Value) (v_fetched : Value) (v_compared : Value) (v_maker : Value) (v_writer : Value) (i_madeDocuments : Int32) (i_fetchedSteps : Int32) (hp : Nat) (p_i_going : Int32) (p_i_writesLeft : Int32) (hd : Nat) (cD : ClassId) (cR : ClassId) (cB : ClassId) (ds : Nat → Option Dc) (pl : va_W) (hpd : plD cB cR ds pl) (hdk : dsOk ds) (hus : cfr ds 8 ≤ 512) : Met l y_K_freeBlocks k_K_freeBlocks ({ frames := 3, cells := 0, slots := 0, locals := 67 } : Room) (va_Pc [.ref h0] (pc_R (dC, dI) (([(h0, .inr (0, [.ref hd, v_buffer, v_fetched, v_compared, v_maker, v_writer, .ref hp, .int i_madeDocuments, .int i_fetchedSteps])), (hp, .inr (4, [.int 0, .int p_i_going, .int p_i_writesLeft])), (hd, .inl (cD, 8, .inr (.inr (.inr (.inr ((dsA ds)))))))] : va_W) ++ pl) [(cD, .object R_D), (cR, .object R_V), (cB, .byte)])) (vp_Si (fun r => r = nI (512 - cfr ds 8))) 0 0 (fun _ => False) := by
  refine Met.ofW (cc := prog_1_method_17_code) (maxL := 1) (ret := (some .int)) (by decide) rfl ?_
  intro p e s m args below meth c s₁ B hml hv
  obtain ⟨rfl, hP, hK, hN⟩ := hv
  have hx := B.exec
  have hb := B.bytes
  have hr := B.returns
  have hts := atoms_spec (ws := k_K_freeBlocks) B.pre
  have hw0 : ∀ w ∈ w0, w.before _ s = true := fun w h => hts w (List.mem_cons_of_mem _ h)
  have hown : s.vm.findClass R_K = some m.cls := findClass_of_methodNamed B.named
  have hlocks := B.notSynchronized
  have hP : va_P (dC, dI) vwCl (([(h0, .inr (0, [.ref hd, v_buffer, v_fetched, v_compared, v_maker, v_writer, .ref hp, .int i_madeDocuments, .int i_fetchedSteps])), (hp, .inr (4, [.int 0, .int p_i_going, .int p_i_writesLeft])), (hd, .inl (cD, 8, .inr (.inr (.inr (.inr ((dsA ds)))))))] : va_W) ++ pl) s.heap := hP
  have hl := lv_entry ([.ref h0]) (n := 1) (Nat.le_of_ble_eq_true rfl)
  rw [lg_entry_eq]
  generalize (lg_sl ([.ref h0]) ++ List.replicate (1 - (lg_sl ([.ref h0])).length) Slot.unset).toArray = ls at hl ⊢
  have hl : lv_has ls 1 [(0, .ref h0)] := hl
  refine lv_aload_n hx hb d_K_freeBlocks_0 rfl (lv_at hl 0 rfl) ?_
  have hPc := hP.sub (ws' := [(h0, .inr (0, [.ref hd, v_buffer, v_fetched, v_compared, v_maker, v_writer, .ref hp, .int i_madeDocuments, .int i_fetchedSteps])), (hp, .inr (4, [.int 0, .int p_i_going, .int p_i_writesLeft]))]) [0, 1] rfl
  have hKc := hK.sub (tys' := []) [] rfl
  refine ps_v (va_runV (As := []) (rest := []) ⟨hx, hb, hml, hown, hw0⟩ (g_needPower l dC dI h0 (.ref hd) v_buffer v_fetched v_compared v_maker v_writer i_madeDocuments i_fetchedSteps hp p_i_going p_i_writesLeft) (cwV 0 hw0 (gd_V 322 323 324 226 325 rfl rfl rfl rfl rfl) rfl rfl rfl (by decide +kernel) ⟨by decide +kernel, by decide +kernel⟩) (prV_R hPc hKc hN (va_recv hKc hPc (ci := 0) (q0 := 0) rfl rfl)) rfl rfl hl.1 rfl (lv_room (Nat.le_of_ble_eq_true rfl)) d_K_freeBlocks_1 ⟨by decide +kernel, by decide +kernel⟩) ?_
  refine lv_aload_n hx hb d_K_freeBlocks_4 rfl (lv_at hl 0 rfl) ?_
  have hPc := hP.part (cx := [(h0, .inr (0, [.ref hd, v_buffer, v_fetched, v_compared, v_maker, v_writer, .ref hp, .int i_madeDocuments, .int i_fetchedSteps])), (hd, .inl (cD, 8, .inr (.inr (.inr (.inr ((dsA ds)))))))]) [0, 2] rfl
  have hKc := hK.sub (tys' := [(cD, .object R_D), (cR, .object R_V), (cB, .byte)]) [0, 1, 2] rfl
  refine ps_i (va_runV (As := []) (rest := []) ⟨hx, hb, hml, hown, hw0⟩ (g_countFree l dC dI h0 v_buffer v_fetched v_compared v_maker v_writer (.ref hp) i_madeDocuments i_fetchedSteps hd cD _ _ _ pl (by first | assumption | decide | omega) (by first | assumption | decide | omega) (by first | assumption | decide | omega)) (cwV 0 hw0 (gd_V 366 367 368 226 369 rfl rfl rfl rfl rfl) rfl rfl rfl (by decide +kernel) ⟨by decide +kernel, by decide +kernel⟩) (prV_R hPc hKc hN (va_recv hKc hPc (ci := 0) (q0 := 0) rfl rfl)) rfl rfl hl.1 rfl (lv_room (Nat.le_of_ble_eq_true rfl)) d_K_freeBlocks_5 ⟨by decide +kernel, by decide +kernel⟩) (fun r_1 hr_1 => ?_)
  obtain rfl : r_1 = (nI (512 - cfr ds 8)) := hr_1
  exact W.iret (v := (nI (512 - cfr ds 8))) hx hb hr (fun t ht hW => ⟨(nI (512 - cfr ds 8)), rfl, rfl, ht⟩) (fun q h => by cases h) d_K_freeBlocks_8
set_option maxHeartbeats 4000000 in
set_option maxRecDepth 100000 in
theorem g_trim_N (l : Launch) (dC : Nat → ClassId) (dI : Nat → Nat → Nat) (h0 : Nat) (v_buffer : Value) (v_fetched : Value) (v_compared : Value) (v_maker : Value) (v_writer : Value) (i_madeDocuments : Int32) (i_fetchedSteps : Int32) (hp : Nat) (p_i_going : Int32) (p_i_writesLeft : Int32) (hd : Nat) (cD : ClassId) (fD : Nat → Option Nat) (a1 : Int32) (a2 : Int32) (hdN : atN 8 fD a1 = none) : Met l y_K_trim k_K_trim ({ frames := 1, cells := 0, slots := 0, locals := 21 } : Room) (va_Pc [.ref h0, .int a1, .int a2] (pc_R (dC, dI) [(h0, .inr (0, [.ref hd, v_buffer, v_fetched, v_compared, v_maker, v_writer, .ref hp, .int i_madeDocuments, .int i_fetchedSteps])), (hp, .inr (4, [.int 0, .int p_i_going, .int p_i_writesLeft])), (hd, .inl (cD, 8, .inr (.inr (.inr (.inr (fD))))))] [(cD, .object R_D)])) (vp_Si (fun r => r = 0)) 0 0 (fun _ => False) := by
  refine Met.ofW (cc := prog_1_method_9_code) (maxL := 4) (ret := (some .boolean)) (by decide) rfl ?_
  intro p e s m args below meth c s₁ B hml hv
  obtain ⟨rfl, hP, hK, hN⟩ := hv
  have hx := B.exec
  have hb := B.bytes
  have hr := B.returns
  have hts := atoms_spec (ws := k_K_trim) B.pre
  have hw0 : ∀ w ∈ w0, w.before _ s = true := fun w h => hts w (List.mem_cons_of_mem _ h)
  have hown : s.vm.findClass R_K = some m.cls := findClass_of_methodNamed B.named
  have hlocks := B.notSynchronized
  have hP : va_P (dC, dI) vwCl [(h0, .inr (0, [.ref hd, v_buffer, v_fetched, v_compared, v_maker, v_writer, .ref hp, .int i_madeDocuments, .int i_fetchedSteps])), (hp, .inr (4, [.int 0, .int p_i_going, .int p_i_writesLeft])), (hd, .inl (cD, 8, .inr (.inr (.inr (.inr (fD))))))] s.heap := hP
  have hl := lv_entry ([.ref h0, .int a1, .int a2]) (n := 4) (Nat.le_of_ble_eq_true rfl)
  rw [lg_entry_eq]
  generalize (lg_sl ([.ref h0, .int a1, .int a2]) ++ List.replicate (4 - (lg_sl ([.ref h0, .int a1, .int a2])).length) Slot.unset).toArray = ls at hl ⊢
  have hl : lv_has ls 4 [(0, .ref h0), (1, .int a1), (2, .int a2)] := hl
  refine lv_aload_n hx hb d_K_trim_0 rfl (lv_at hl 0 rfl) ?_
  have hPc := hP.sub (ws' := [(h0, .inr (0, [.ref hd, v_buffer, v_fetched, v_compared, v_maker, v_writer, .ref hp, .int i_madeDocuments, .int i_fetchedSteps])), (hp, .inr (4, [.int 0, .int p_i_going, .int p_i_writesLeft]))]) [0, 1] rfl
  have hKc := hK.sub (tys' := []) [] rfl
  refine ps_v (va_runV (As := []) (rest := []) ⟨hx, hb, hml, hown, hw0⟩ (g_needPower l dC dI h0 (.ref hd) v_buffer v_fetched v_compared v_maker v_writer i_madeDocuments i_fetchedSteps hp p_i_going p_i_writesLeft) (cwV 0 hw0 (gd_V 322 323 324 226 325 rfl rfl rfl rfl rfl) rfl rfl rfl (by decide +kernel) ⟨by decide +kernel, by decide +kernel⟩) (prV_R hPc hKc hN (va_recv hKc hPc (ci := 0) (q0 := 0) rfl rfl)) rfl rfl hl.1 rfl (lv_room (Nat.le_of_ble_eq_true rfl)) d_K_trim_1 ⟨by decide +kernel, by decide +kernel⟩) ?_
  refine lv_aload_n hx hb d_K_trim_4 rfl (lv_at hl 0 rfl) ?_
  refine lv_iload_n hx hb d_K_trim_5 rfl (lv_at hl 1 rfl) ?_
  have hPc := hP.sub (ws' := [(h0, .inr (0, [.ref hd, v_buffer, v_fetched, v_compared, v_maker, v_writer, .ref hp, .int i_madeDocuments, .int i_fetchedSteps])), (hd, .inl (cD, 8, .inr (.inr (.inr (.inr ((fD)))))))]) [0, 2] rfl
  have hKc := hK.sub (tys' := [(cD, .object R_D)]) [0] rfl
  refine ps_q (va_runV (As := [.int a1]) (rest := []) ⟨hx, hb, hml, hown, hw0⟩ (g_docAt_N l dC dI h0 v_buffer v_fetched v_compared v_maker v_writer (.ref hp) i_madeDocuments i_fetchedSteps hd cD (fD) a1 (by first | assumption | decide | omega)) (cwV 1 hw0 (gd_V 317 318 319 226 320 rfl rfl rfl rfl rfl) rfl rfl rfl (by decide +kernel) ⟨by decide +kernel, by decide +kernel⟩) (prV_R hPc hKc hN (va_recv hKc hPc (ci := 0) (q0 := 0) rfl rfl)) rfl rfl hl.1 rfl (lv_room (Nat.le_of_ble_eq_true rfl)) d_K_trim_6 ⟨by decide +kernel, by decide +kernel⟩) (fun r_1 hr_1 => ?_)
  obtain rfl : r_1 = none := hr_1
  refine W.eq (g2 := F0 m 9 ls [.null]) rfl ?_
  refine lv_astore_nN (lv' := [(3, .null), (0, .ref h0), (1, .int a1), (2, .int a2)]) hx hb d_K_trim_9 rfl hl (by decide) rfl (fun ls hl => ?_)
  refine lv_aload_nN hx hb d_K_trim_10 rfl (lv_at hl 0 rfl) ?_
  refine lv_ifnullN (tgt := 22) hx hb d_K_trim_11 (by decide) ?_
  refine lv_iconst (v := 0) hx hb d_K_trim_22 (by decide) ?_
  exact W.zret (v := 0) (ty := .boolean) hx hb hr rfl (fun t ht hW => ⟨0, rfl, rfl, ht⟩) (fun q h => by cases h) d_K_trim_23
set_option maxHeartbeats 4000000 in
set_option maxRecDepth 100000 in
theorem g_trim_A (l : Launch) (dC : Nat → ClassId) (dI : Nat → Nat → Nat) (h0 : Nat) (v_buffer : Value) (v_fetched : Value) (v_compared : Value) (v_maker : Value) (v_writer : Value) (i_madeDocuments : Int32) (i_fetchedSteps : Int32) (hp : Nat) (p_i_going : Int32) (p_i_writesLeft : Int32) (hd : Nat) (cD : ClassId) (fD : Nat → Option Nat) (hdo : Nat) (hra : Nat) (cR : ClassId) (df : Nat) (dn : Nat) (fr : Nat → Option Nat) (a1 : Int32) (a2 : Int32) (hdS : atN 8 fD a1 = some hdo) (hdn : dn ≤ 64) (hna : a2 < nI df ∨ nI dn ≤ a2) : Met l y_K_trim k_K_trim ({ frames := 1, cells := 0, slots := 0, locals := 21 } : Room) (va_Pc [.ref h0, .int a1, .int a2] (pc_R (dC, dI) [(h0, .inr (0, [.ref hd, v_buffer, v_fetched, v_compared, v_maker, v_writer, .ref hp, .int i_madeDocuments, .int i_fetchedSteps])), (hp, .inr (4, [.int 0, .int p_i_going, .int p_i_writesLeft])), (hd, .inl (cD, 8, .inr (.inr (.inr (.inr (fD)))))), (hdo, .inr (5, [.ref hra, .int (nI df), .int (nI dn)])), (hra, .inl (cR, 64, .inr (.inr (.inr (.inr (fr))))))] [(cD, .object R_D), (cR, .object R_V)])) (vp_Si (fun r => r = 0)) 0 0 (fun _ => False) := by
  refine Met.ofW (cc := prog_1_method_9_code) (maxL := 4) (ret := (some .boolean)) (by decide) rfl ?_
  intro p e s m args below meth c s₁ B hml hv
  obtain ⟨rfl, hP, hK, hN⟩ := hv
  have hx := B.exec
  have hb := B.bytes
  have hr := B.returns
  have hts := atoms_spec (ws := k_K_trim) B.pre
  have hw0 : ∀ w ∈ w0, w.before _ s = true := fun w h => hts w (List.mem_cons_of_mem _ h)
  have hown : s.vm.findClass R_K = some m.cls := findClass_of_methodNamed B.named
  have hlocks := B.notSynchronized
  have hP : va_P (dC, dI) vwCl [(h0, .inr (0, [.ref hd, v_buffer, v_fetched, v_compared, v_maker, v_writer, .ref hp, .int i_madeDocuments, .int i_fetchedSteps])), (hp, .inr (4, [.int 0, .int p_i_going, .int p_i_writesLeft])), (hd, .inl (cD, 8, .inr (.inr (.inr (.inr (fD)))))), (hdo, .inr (5, [.ref hra, .int (nI df), .int (nI dn)])), (hra, .inl (cR, 64, .inr (.inr (.inr (.inr (fr))))))] s.heap := hP
  have hl := lv_entry ([.ref h0, .int a1, .int a2]) (n := 4) (Nat.le_of_ble_eq_true rfl)
  rw [lg_entry_eq]
  generalize (lg_sl ([.ref h0, .int a1, .int a2]) ++ List.replicate (4 - (lg_sl ([.ref h0, .int a1, .int a2])).length) Slot.unset).toArray = ls at hl ⊢
  have hl : lv_has ls 4 [(0, .ref h0), (1, .int a1), (2, .int a2)] := hl
  refine lv_aload_n hx hb d_K_trim_0 rfl (lv_at hl 0 rfl) ?_
  have hPc := hP.sub (ws' := [(h0, .inr (0, [.ref hd, v_buffer, v_fetched, v_compared, v_maker, v_writer, .ref hp, .int i_madeDocuments, .int i_fetchedSteps])), (hp, .inr (4, [.int 0, .int p_i_going, .int p_i_writesLeft]))]) [0, 1] rfl
  have hKc := hK.sub (tys' := []) [] rfl
  refine ps_v (va_runV (As := []) (rest := []) ⟨hx, hb, hml, hown, hw0⟩ (g_needPower l dC dI h0 (.ref hd) v_buffer v_fetched v_compared v_maker v_writer i_madeDocuments i_fetchedSteps hp p_i_going p_i_writesLeft) (cwV 0 hw0 (gd_V 322 323 324 226 325 rfl rfl rfl rfl rfl) rfl rfl rfl (by decide +kernel) ⟨by decide +kernel, by decide +kernel⟩) (prV_R hPc hKc hN (va_recv hKc hPc (ci := 0) (q0 := 0) rfl rfl)) rfl rfl hl.1 rfl (lv_room (Nat.le_of_ble_eq_true rfl)) d_K_trim_1 ⟨by decide +kernel, by decide +kernel⟩) ?_
  refine lv_aload_n hx hb d_K_trim_4 rfl (lv_at hl 0 rfl) ?_
  refine lv_iload_n hx hb d_K_trim_5 rfl (lv_at hl 1 rfl) ?_
  have hPc := hP.sub (ws' := [(h0, .inr (0, [.ref hd, v_buffer, v_fetched, v_compared, v_maker, v_writer, .ref hp, .int i_madeDocuments, .int i_fetchedSteps])), (hd, .inl (cD, 8, .inr (.inr (.inr (.inr ((fD)))))))]) [0, 2] rfl
  have hKc := hK.sub (tys' := [(cD, .object R_D)]) [0] rfl
  refine ps_q (va_runV (As := [.int a1]) (rest := []) ⟨hx, hb, hml, hown, hw0⟩ (g_docAt_S l dC dI h0 v_buffer v_fetched v_compared v_maker v_writer (.ref hp) i_madeDocuments i_fetchedSteps hd cD (fD) a1 hdo (by first | assumption | decide | omega)) (cwV 1 hw0 (gd_V 317 318 319 226 320 rfl rfl rfl rfl rfl) rfl rfl rfl (by decide +kernel) ⟨by decide +kernel, by decide +kernel⟩) (prV_R hPc hKc hN (va_recv hKc hPc (ci := 0) (q0 := 0) rfl rfl)) rfl rfl hl.1 rfl (lv_room (Nat.le_of_ble_eq_true rfl)) d_K_trim_6 ⟨by decide +kernel, by decide +kernel⟩) (fun r_1 hr_1 => ?_)
  obtain rfl : r_1 = some hdo := hr_1
  refine W.eq (g2 := F0 m 9 ls [.ref hdo]) rfl ?_
  refine lv_astore_n (lv' := [(3, .ref hdo), (0, .ref h0), (1, .int a1), (2, .int a2)]) hx hb d_K_trim_9 rfl hl (by decide) rfl (fun ls hl => ?_)
  refine lv_aload_n hx hb d_K_trim_10 rfl (lv_at hl 0 rfl) ?_
  refine lv_ifnull hx hb d_K_trim_11 ?_
  refine lv_aload_n hx hb d_K_trim_14 rfl (lv_at hl 0 rfl) ?_
  refine lv_iload_n hx hb d_K_trim_15 rfl (lv_at hl 3 rfl) ?_
  have hPc := hP.sub (ws' := [(hdo, .inr (5, [.ref hra, .int (nI df), .int (nI dn)])), (hra, .inl (cR, 64, .inr (.inr (.inr (.inr ((fr)))))))]) [3, 4] rfl
  have hKc := hK.sub (tys' := [(cR, .object R_V)]) [1] rfl
  refine ps_i (va_runV (As := [.int a2]) (rest := []) ⟨hx, hb, hml, hown, hw0⟩ (g_asked_F l dC dI hdo hra cR df dn (fr) a2 (by first | assumption | decide | omega)) (cwV 1 hw0 (gd_V 370 371 372 233 373 rfl rfl rfl rfl rfl) rfl rfl rfl (by decide +kernel) ⟨by decide +kernel, by decide +kernel⟩) (prV_R hPc hKc hN (va_recv hKc hPc (ci := 5) (q0 := 0) rfl rfl)) rfl rfl hl.1 rfl (lv_room (Nat.le_of_ble_eq_true rfl)) d_K_trim_16 ⟨by decide +kernel, by decide +kernel⟩) (fun r_2 hr_2 => ?_)
  obtain rfl : r_2 = 0 := hr_2
  refine lv_if_ne (tgt := 24) hx hb d_K_trim_19 (by decide) (fun h9 => absurd h9 (by decide +kernel)) (fun _ => ?_)
  refine lv_iconst (v := 0) hx hb d_K_trim_22 (by decide) ?_
  exact W.zret (v := 0) (ty := .boolean) hx hb hr rfl (fun t ht hW => ⟨0, rfl, rfl, ht⟩) (fun q h => by cases h) d_K_trim_23
set_option maxHeartbeats 4000000 in
set_option maxRecDepth 100000 in
theorem g_trim_T (l : Launch) (dC : Nat → ClassId) (dI : Nat → Nat → Nat) (sz : Nat) (h0 : Nat) (v_buffer : Value) (v_fetched : Value) (v_compared : Value) (v_maker : Value) (v_writer : Value) (i_madeDocuments : Int32) (i_fetchedSteps : Int32) (hp : Nat) (go : Option Nat) (wl : Int32) (hd : Nat) (cD : ClassId) (fD : Nat → Option Nat) (hdo : Nat) (hra : Nat) (cR : ClassId) (df : Nat) (dn : Nat) (fr : Nat → Option Nat) (a1 : Int32) (r9 : Nat) (hg : ∀ w, go = some w → wl = nI w ∧ w < 2 ^ 31) (hle : ∀ w, go = some w → 1 ≤ w) (hdS : atN 8 fD a1 = some hdo) (hdn : dn ≤ 64) (ha1 : df ≤ r9) (ha2 : r9 < dn) : Met l y_K_trim k_K_trim ({ frames := 2, cells := 0, slots := 0, locals := 55 } : Room) (va_Pc [.ref h0, .int a1, .int (nI r9)] (pc_E (dC, dI) [(h0, .inr (0, [.ref hd, v_buffer, v_fetched, v_compared, v_maker, v_writer, .ref hp, .int i_madeDocuments, .int i_fetchedSteps])), (hp, .inr (4, [.int 0, .int (bI go.isSome), .int wl])), (hd, .inl (cD, 8, .inr (.inr (.inr (.inr (fD)))))), (hdo, .inr (5, [.ref hra, .int (nI df), .int (nI dn)])), (hra, .inl (cR, 64, .inr (.inr (.inr (.inr (fr))))))] [(cD, .object R_D), (cR, .object R_V)] sz)) (va_Qi (fun (r : Int32) (_ : Unit) => r = 1) (fun (_ : Unit) t => ∃ (wl2 : Int32), (∀ w, go = some w → wl2 = nI (w - 1)) ∧ at_E (dC, dI) (va_A [(h0, .inr (0, [.ref hd, v_buffer, v_fetched, v_compared, v_maker, v_writer, .ref hp, .int i_madeDocuments, .int i_fetchedSteps])), (hp, .inr (4, [.int 0, .int (bI go.isSome), .int wl])), (hd, .inl (cD, 8, .inr (.inr (.inr (.inr (fD)))))), (hdo, .inr (5, [.ref hra, .int (nI df), .int (nI dn)])), (hra, .inl (cR, 64, .inr (.inr (.inr (.inr (fr))))))] sz) [(h0, .inr (0, [.ref hd, v_buffer, v_fetched, v_compared, v_maker, v_writer, .ref hp, .int i_madeDocuments, .int i_fetchedSteps])), (hp, .inr (4, [.int 0, .int (bI go.isSome), .int wl2])), (hd, .inl (cD, 8, .inr (.inr (.inr (.inr (fD)))))), (hdo, .inr (5, [.ref hra, .int (nI r9), .int (nI dn)])), (hra, .inl (cR, 64, .inr (.inr (.inr (.inr ((cutA r9 fr 0)))))))] [(cD, .object R_D), (cR, .object R_V)] t) (va_A [(h0, .inr (0, [.ref hd, v_buffer, v_fetched, v_compared, v_maker, v_writer, .ref hp, .int i_madeDocuments, .int i_fetchedSteps])), (hp, .inr (4, [.int 0, .int (bI go.isSome), .int wl])), (hd, .inl (cD, 8, .inr (.inr (.inr (.inr (fD)))))), (hdo, .inr (5, [.ref hra, .int (nI df), .int (nI dn)])), (hra, .inl (cR, 64, .inr (.inr (.inr (.inr (fr))))))] sz)) 0 0 (va_A [(h0, .inr (0, [.ref hd, v_buffer, v_fetched, v_compared, v_maker, v_writer, .ref hp, .int i_madeDocuments, .int i_fetchedSteps])), (hp, .inr (4, [.int 0, .int (bI go.isSome), .int wl])), (hd, .inl (cD, 8, .inr (.inr (.inr (.inr (fD)))))), (hdo, .inr (5, [.ref hra, .int (nI df), .int (nI dn)])), (hra, .inl (cR, 64, .inr (.inr (.inr (.inr (fr))))))] sz) := by
  refine Met.ofW (cc := prog_1_method_9_code) (maxL := 4) (ret := (some .boolean)) (by decide) rfl ?_
  intro p e s m args below meth c s₁ B hml hv
  obtain ⟨rfl, hsz, hP, hK, hD0, hN⟩ := hv
  have hx := B.exec
  have hb := B.bytes
  have hr := B.returns
  have hts := atoms_spec (ws := k_K_trim) B.pre
  have hw0 : ∀ w ∈ w0, w.before _ s = true := fun w h => hts w (List.mem_cons_of_mem _ h)
  have hown : s.vm.findClass R_K = some m.cls := findClass_of_methodNamed B.named
  have hlocks := B.notSynchronized
  subst hsz
  have hD := hD0.self (sz := s.heap.size)
  generalize hAe : va_A [(h0, .inr (0, [.ref hd, v_buffer, v_fetched, v_compared, v_maker, v_writer, .ref hp, .int i_madeDocuments, .int i_fetchedSteps])), (hp, .inr (4, [.int 0, .int (bI go.isSome), .int wl])), (hd, .inl (cD, 8, .inr (.inr (.inr (.inr (fD)))))), (hdo, .inr (5, [.ref hra, .int (nI df), .int (nI dn)])), (hra, .inl (cR, 64, .inr (.inr (.inr (.inr (fr))))))] s.heap.size = A at hD ⊢
  have hA : ∀ q : Nat, s.heap.size ≤ q → A q := fun q h => by rw [← hAe]; exact Or.inr h
  have hS : va_S A s.heap s.heap [] := va_S.rf
  have hP : va_P (dC, dI) vwCl [(h0, .inr (0, [.ref hd, v_buffer, v_fetched, v_compared, v_maker, v_writer, .ref hp, .int i_madeDocuments, .int i_fetchedSteps])), (hp, .inr (4, [.int 0, .int (bI go.isSome), .int wl])), (hd, .inl (cD, 8, .inr (.inr (.inr (.inr (fD)))))), (hdo, .inr (5, [.ref hra, .int (nI df), .int (nI dn)])), (hra, .inl (cR, 64, .inr (.inr (.inr (.inr (fr))))))] s.heap := hP
  have hl := lv_entry ([.ref h0, .int a1, .int (nI r9)]) (n := 4) (Nat.le_of_ble_eq_true rfl)
  rw [lg_entry_eq]
  generalize (lg_sl ([.ref h0, .int a1, .int (nI r9)]) ++ List.replicate (4 - (lg_sl ([.ref h0, .int a1, .int (nI r9)])).length) Slot.unset).toArray = ls at hl ⊢
  have hl : lv_has ls 4 [(0, .ref h0), (1, .int a1), (2, .int (nI r9))] := hl
  refine lv_aload_n hx hb d_K_trim_0 rfl (lv_at hl 0 rfl) ?_
  have hPc := hP.sub (ws' := [(h0, .inr (0, [.ref hd, v_buffer, v_fetched, v_compared, v_maker, v_writer, .ref hp, .int i_madeDocuments, .int i_fetchedSteps])), (hp, .inr (4, [.int 0, .int (bI go.isSome), .int wl]))]) [0, 1] rfl
  have hKc := hK.sub (tys' := []) [] rfl
  refine ps_v (va_runV (As := []) (rest := []) ⟨hx, hb, hml, hown, hw0⟩ (g_needPower l dC dI h0 (.ref hd) v_buffer v_fetched v_compared v_maker v_writer i_madeDocuments i_fetchedSteps hp (bI go.isSome) wl) (cwV 0 hw0 (gd_V 322 323 324 226 325 rfl rfl rfl rfl rfl) rfl rfl rfl (by decide +kernel) ⟨by decide +kernel, by decide +kernel⟩) (prV_R hPc hKc hN (va_recv hKc hPc (ci := 0) (q0 := 0) rfl rfl)) rfl rfl hl.1 rfl (lv_room (Nat.le_of_ble_eq_true rfl)) d_K_trim_1 ⟨by decide +kernel, by decide +kernel⟩) ?_
  refine lv_aload_n hx hb d_K_trim_4 rfl (lv_at hl 0 rfl) ?_
  refine lv_iload_n hx hb d_K_trim_5 rfl (lv_at hl 1 rfl) ?_
  have hPc := hP.sub (ws' := [(h0, .inr (0, [.ref hd, v_buffer, v_fetched, v_compared, v_maker, v_writer, .ref hp, .int i_madeDocuments, .int i_fetchedSteps])), (hd, .inl (cD, 8, .inr (.inr (.inr (.inr ((fD)))))))]) [0, 2] rfl
  have hKc := hK.sub (tys' := [(cD, .object R_D)]) [0] rfl
  refine ps_q (va_runV (As := [.int a1]) (rest := []) ⟨hx, hb, hml, hown, hw0⟩ (g_docAt_S l dC dI h0 v_buffer v_fetched v_compared v_maker v_writer (.ref hp) i_madeDocuments i_fetchedSteps hd cD (fD) a1 hdo (by first | assumption | decide | omega)) (cwV 1 hw0 (gd_V 317 318 319 226 320 rfl rfl rfl rfl rfl) rfl rfl rfl (by decide +kernel) ⟨by decide +kernel, by decide +kernel⟩) (prV_R hPc hKc hN (va_recv hKc hPc (ci := 0) (q0 := 0) rfl rfl)) rfl rfl hl.1 rfl (lv_room (Nat.le_of_ble_eq_true rfl)) d_K_trim_6 ⟨by decide +kernel, by decide +kernel⟩) (fun r_1 hr_1 => ?_)
  obtain rfl : r_1 = some hdo := hr_1
  refine W.eq (g2 := F0 m 9 ls [.ref hdo]) rfl ?_
  refine lv_astore_n (lv' := [(3, .ref hdo), (0, .ref h0), (1, .int a1), (2, .int (nI r9))]) hx hb d_K_trim_9 rfl hl (by decide) rfl (fun ls hl => ?_)
  refine lv_aload_n hx hb d_K_trim_10 rfl (lv_at hl 0 rfl) ?_
  refine lv_ifnull hx hb d_K_trim_11 ?_
  refine lv_aload_n hx hb d_K_trim_14 rfl (lv_at hl 0 rfl) ?_
  refine lv_iload_n hx hb d_K_trim_15 rfl (lv_at hl 3 rfl) ?_
  have hPc := hP.sub (ws' := [(hdo, .inr (5, [.ref hra, .int (nI df), .int (nI dn)])), (hra, .inl (cR, 64, .inr (.inr (.inr (.inr ((fr)))))))]) [3, 4] rfl
  have hKc := hK.sub (tys' := [(cR, .object R_V)]) [1] rfl
  refine ps_i (va_runV (As := [.int (nI r9)]) (rest := []) ⟨hx, hb, hml, hown, hw0⟩ (g_asked_T l dC dI hdo hra cR df dn (fr) r9 (by first | assumption | decide | omega) (by first | assumption | decide | omega) (by first | assumption | decide | omega)) (cwV 1 hw0 (gd_V 370 371 372 233 373 rfl rfl rfl rfl rfl) rfl rfl rfl (by decide +kernel) ⟨by decide +kernel, by decide +kernel⟩) (prV_R hPc hKc hN (va_recv hKc hPc (ci := 5) (q0 := 0) rfl rfl)) rfl rfl hl.1 rfl (lv_room (Nat.le_of_ble_eq_true rfl)) d_K_trim_16 ⟨by decide +kernel, by decide +kernel⟩) (fun r_2 hr_2 => ?_)
  obtain rfl : r_2 = 1 := hr_2
  refine lv_if_ne (tgt := 24) hx hb d_K_trim_19 (by decide) (fun _ => ?_) (fun h9 => absurd h9 (by decide +kernel))
  refine lv_aload_n hx hb d_K_trim_24 rfl (lv_at hl 1 rfl) ?_
  refine lv_iconst (v := 1) hx hb d_K_trim_25 (by decide) ?_
  have hPc := hP.sub (ws' := [(h0, .inr (0, [.ref hd, v_buffer, v_fetched, v_compared, v_maker, v_writer, .ref hp, .int i_madeDocuments, .int i_fetchedSteps])), (hp, .inr (4, [.int 0, .int (bI go.isSome), .int wl]))]) [0, 1] rfl
  have hKc := hK.sub (tys' := []) [] rfl
  have hDc := hD.sub (ws' := [(h0, .inr (0, [.ref hd, v_buffer, v_fetched, v_compared, v_maker, v_writer, .ref hp, .int i_madeDocuments, .int i_fetchedSteps])), (hp, .inr (4, [.int 0, .int (bI go.isSome), .int wl]))]) [0, 1] (by decide) rfl
  have hFc := va_free (wc := [(h0, .inr (0, [.ref hd, v_buffer, v_fetched, v_compared, v_maker, v_writer, .ref hp, .int i_madeDocuments, .int i_fetchedSteps])), (hp, .inr (4, [.int 0, .int (bI go.isSome), .int wl]))]) hD hS hA [0, 1] rfl
  refine va_callv (va_runV (As := [.int 1]) (rest := []) ⟨hx, hb, hml, hown, hw0⟩ (g_spend l dC dI s.heap.size h0 (.ref hd) v_buffer v_fetched v_compared v_maker v_writer i_madeDocuments i_fetchedSteps hp _ wl 1 (by first | assumption | decide | omega) (by first | assumption | decide | omega) (by first | assumption | decide | omega)) (cwV 1 hw0 (gd_V 354 355 356 226 357 rfl rfl rfl rfl rfl) rfl rfl rfl (by decide +kernel) ⟨by decide +kernel, by decide +kernel⟩) (prV_E hPc hKc hDc hN (va_recv hKc hPc (ci := 0) (q0 := 0) rfl rfl)) rfl rfl hl.1 rfl (lv_room (Nat.le_of_ble_eq_true rfl)) d_K_trim_26 ⟨by decide +kernel, by decide +kernel⟩) hS (fun q _ h => hFc q h) hFc (fun u t H1 locs ht hvm hw hB hz1 hk1 hS => ?_)
  obtain ⟨wl2_3, hu_4, hP1, hK1, hD1⟩ := hB
  rw [ht] at hP1
  have hK1 := va_K.moved hvm.symm hK1
  try dsimp only at hw
  obtain ⟨hP, hD⟩ := va_join (wr := [(hd, .inl (cD, 8, .inr (.inr (.inr (.inr (fD)))))), (hdo, .inr (5, [.ref hra, .int (nI df), .int (nI dn)])), (hra, .inl (cR, 64, .inr (.inr (.inr (.inr (fr))))))]) (w1 := [(h0, .inr (0, [.ref hd, v_buffer, v_fetched, v_compared, v_maker, v_writer, .ref hp, .int i_madeDocuments, .int i_fetchedSteps])), (hp, .inr (4, [.int 0, .int (bI go.isSome), .int wl2_3]))]) hP hD [0, 1] [2, 3, 4] rfl rfl (by decide) (by decide) hk1 hFc hP1 hD1
  generalize H1 = H at hP hS ⊢
  replace hP : va_P (dC, dI) vwCl [(hd, .inl (cD, 8, .inr (.inr (.inr (.inr (fD)))))), (hdo, .inr (5, [.ref hra, .int (nI df), .int (nI dn)])), (hra, .inl (cR, 64, .inr (.inr (.inr (.inr (fr)))))), (h0, .inr (0, [.ref hd, v_buffer, v_fetched, v_compared, v_maker, v_writer, .ref hp, .int i_madeDocuments, .int i_fetchedSteps])), (hp, .inr (4, [.int 0, .int (bI go.isSome), .int wl2_3]))] H := hP
  replace hD : va_D A [(hd, .inl (cD, 8, .inr (.inr (.inr (.inr (fD)))))), (hdo, .inr (5, [.ref hra, .int (nI df), .int (nI dn)])), (hra, .inl (cR, 64, .inr (.inr (.inr (.inr (fr)))))), (h0, .inr (0, [.ref hd, v_buffer, v_fetched, v_compared, v_maker, v_writer, .ref hp, .int i_madeDocuments, .int i_fetchedSteps])), (hp, .inr (4, [.int 0, .int (bI go.isSome), .int wl2_3]))] := hD
  replace hK : va_K (dC, dI) vwCl [(cD, .object R_D), (cR, .object R_V)] s := hK
  · have hz9 := hdn
    refine lv_aload_n hx hb d_K_trim_29 rfl (lv_at hl 0 rfl) ?_
    refine lv_iload_n hx hb d_K_trim_30 rfl (lv_at hl 3 rfl) ?_
    have hPc := hP.sub (ws' := [(hdo, .inr (5, [.ref hra, .int (nI df), .int (nI dn)])), (hra, .inl (cR, 64, .inr (.inr (.inr (.inr ((fr)))))))]) [1, 2] rfl
    have hKc := hK.sub (tys' := [(cR, .object R_V)]) [1] rfl
    have hDc := hD.sub (ws' := [(hdo, .inr (5, [.ref hra, .int (nI df), .int (nI dn)])), (hra, .inl (cR, 64, .inr (.inr (.inr (.inr ((fr)))))))]) [1, 2] (by decide) rfl
    have hFc := va_free (wc := [(hdo, .inr (5, [.ref hra, .int (nI df), .int (nI dn)])), (hra, .inl (cR, 64, .inr (.inr (.inr (.inr ((fr)))))))]) hD hS hA [1, 2] rfl
    refine va_callv (va_runV (As := [.int (nI r9)]) (rest := []) ⟨hx, hb, hml, hown, hw0⟩ (g_cutBefore l dC dI H.size hdo hra cR df dn (fr) r9 (by first | assumption | decide | omega)) (cwV 1 hw0 (gd_V 374 375 376 233 377 rfl rfl rfl rfl rfl) rfl rfl rfl (by decide +kernel) ⟨by decide +kernel, by decide +kernel⟩) (prV_E hPc hKc hDc hN (va_recv hKc hPc (ci := 5) (q0 := 0) rfl rfl)) rfl rfl hl.1 rfl (lv_room (Nat.le_of_ble_eq_true rfl)) d_K_trim_31 ⟨by decide +kernel, by decide +kernel⟩) hS (fun q _ h => hFc q h) hFc (fun u t H1 locs ht hvm hw hB hz1 hk1 hS => ?_)
    obtain ⟨hP1, hK1, hD1⟩ := hB
    rw [ht] at hP1
    have hK1 := va_K.moved hvm.symm hK1
    try dsimp only at hw
    obtain ⟨hP, hD⟩ := va_join (wr := [(hd, .inl (cD, 8, .inr (.inr (.inr (.inr (fD)))))), (h0, .inr (0, [.ref hd, v_buffer, v_fetched, v_compared, v_maker, v_writer, .ref hp, .int i_madeDocuments, .int i_fetchedSteps])), (hp, .inr (4, [.int 0, .int (bI go.isSome), .int wl2_3]))]) (w1 := [(hdo, .inr (5, [.ref hra, .int (nI r9), .int (nI dn)])), (hra, .inl (cR, 64, .inr (.inr (.inr (.inr ((cutA r9 (fr) 0)))))))]) hP hD [1, 2] [0, 3, 4] rfl rfl (by decide) (by decide) hk1 hFc hP1 hD1
    generalize H1 = H at hP hS ⊢
    replace hP : va_P (dC, dI) vwCl [(hd, .inl (cD, 8, .inr (.inr (.inr (.inr (fD)))))), (h0, .inr (0, [.ref hd, v_buffer, v_fetched, v_compared, v_maker, v_writer, .ref hp, .int i_madeDocuments, .int i_fetchedSteps])), (hp, .inr (4, [.int 0, .int (bI go.isSome), .int wl2_3])), (hdo, .inr (5, [.ref hra, .int (nI r9), .int (nI dn)])), (hra, .inl (cR, 64, .inr (.inr (.inr (.inr ((cutA r9 (fr) 0)))))))] H := hP
    replace hD : va_D A [(hd, .inl (cD, 8, .inr (.inr (.inr (.inr (fD)))))), (h0, .inr (0, [.ref hd, v_buffer, v_fetched, v_compared, v_maker, v_writer, .ref hp, .int i_madeDocuments, .int i_fetchedSteps])), (hp, .inr (4, [.int 0, .int (bI go.isSome), .int wl2_3])), (hdo, .inr (5, [.ref hra, .int (nI r9), .int (nI dn)])), (hra, .inl (cR, 64, .inr (.inr (.inr (.inr ((cutA r9 (fr) 0)))))))] := hD
    replace hK : va_K (dC, dI) vwCl [(cD, .object R_D), (cR, .object R_V)] s := hK
    refine lv_iconst (v := 1) hx hb d_K_trim_34 (by decide) ?_
    have hP9 := hP.sub (ws' := [(h0, .inr (0, [.ref hd, v_buffer, v_fetched, v_compared, v_maker, v_writer, .ref hp, .int i_madeDocuments, .int i_fetchedSteps])), (hp, .inr (4, [.int 0, .int (bI go.isSome), .int wl2_3])), (hd, .inl (cD, 8, .inr (.inr (.inr (.inr (fD)))))), (hdo, .inr (5, [.ref hra, .int (nI r9), .int (nI dn)])), (hra, .inl (cR, 64, .inr (.inr (.inr (.inr ((cutA r9 fr 0)))))))]) [1, 2, 0, 3, 4] rfl
    have hD9 := hD.sub (ws' := [(h0, .inr (0, [.ref hd, v_buffer, v_fetched, v_compared, v_maker, v_writer, .ref hp, .int i_madeDocuments, .int i_fetchedSteps])), (hp, .inr (4, [.int 0, .int (bI go.isSome), .int wl2_3])), (hd, .inl (cD, 8, .inr (.inr (.inr (.inr (fD)))))), (hdo, .inr (5, [.ref hra, .int (nI r9), .int (nI dn)])), (hra, .inl (cR, 64, .inr (.inr (.inr (.inr ((cutA r9 fr 0)))))))]) [1, 2, 0, 3, 4] (by decide) rfl
    have hK9 := hK.sub (tys' := [(cD, .object R_D), (cR, .object R_V)]) [0, 1] rfl
    exact W.zret (v := 1) (ty := .boolean) hx hb hr rfl (fun t ht hW => ⟨⟨1, (), rfl, rfl, wl2_3, hu_4, by rw [ht]; exact hP9, va_K.moved hW.alike hK9, hD9⟩, hS.F ht⟩) hS.2.2 d_K_trim_35
set_option maxHeartbeats 4000000 in
set_option maxRecDepth 100000 in
theorem g_drop_N (l : Launch) (dC : Nat → ClassId) (dI : Nat → Nat → Nat) (h0 : Nat) (v_buffer : Value) (v_fetched : Value) (v_compared : Value) (v_maker : Value) (v_writer : Value) (i_madeDocuments : Int32) (i_fetchedSteps : Int32) (hp : Nat) (p_i_going : Int32) (p_i_writesLeft : Int32) (hd : Nat) (cD : ClassId) (fD : Nat → Option Nat) (a1 : Int32) (hdN : atN 8 fD a1 = none) : Met l y_K_dropDocument k_K_dropDocument ({ frames := 1, cells := 0, slots := 0, locals := 21 } : Room) (va_Pc [.ref h0, .int a1] (pc_R (dC, dI) [(h0, .inr (0, [.ref hd, v_buffer, v_fetched, v_compared, v_maker, v_writer, .ref hp, .int i_madeDocuments, .int i_fetchedSteps])), (hp, .inr (4, [.int 0, .int p_i_going, .int p_i_writesLeft])), (hd, .inl (cD, 8, .inr (.inr (.inr (.inr (fD))))))] [(cD, .object R_D)])) (vp_Si (fun r => r = 0)) 0 0 (fun _ => False) := by
  refine Met.ofW (cc := prog_1_method_10_code) (maxL := 2) (ret := (some .boolean)) (by decide) rfl ?_
  intro p e s m args below meth c s₁ B hml hv
  obtain ⟨rfl, hP, hK, hN⟩ := hv
  have hx := B.exec
  have hb := B.bytes
  have hr := B.returns
  have hts := atoms_spec (ws := k_K_dropDocument) B.pre
  have hw0 : ∀ w ∈ w0, w.before _ s = true := fun w h => hts w (List.mem_cons_of_mem _ h)
  have hown : s.vm.findClass R_K = some m.cls := findClass_of_methodNamed B.named
  have hlocks := B.notSynchronized
  have hP : va_P (dC, dI) vwCl [(h0, .inr (0, [.ref hd, v_buffer, v_fetched, v_compared, v_maker, v_writer, .ref hp, .int i_madeDocuments, .int i_fetchedSteps])), (hp, .inr (4, [.int 0, .int p_i_going, .int p_i_writesLeft])), (hd, .inl (cD, 8, .inr (.inr (.inr (.inr (fD))))))] s.heap := hP
  have hl := lv_entry ([.ref h0, .int a1]) (n := 2) (Nat.le_of_ble_eq_true rfl)
  rw [lg_entry_eq]
  generalize (lg_sl ([.ref h0, .int a1]) ++ List.replicate (2 - (lg_sl ([.ref h0, .int a1])).length) Slot.unset).toArray = ls at hl ⊢
  have hl : lv_has ls 2 [(0, .ref h0), (1, .int a1)] := hl
  refine lv_aload_n hx hb d_K_dropDocument_0 rfl (lv_at hl 0 rfl) ?_
  have hPc := hP.sub (ws' := [(h0, .inr (0, [.ref hd, v_buffer, v_fetched, v_compared, v_maker, v_writer, .ref hp, .int i_madeDocuments, .int i_fetchedSteps])), (hp, .inr (4, [.int 0, .int p_i_going, .int p_i_writesLeft]))]) [0, 1] rfl
  have hKc := hK.sub (tys' := []) [] rfl
  refine ps_v (va_runV (As := []) (rest := []) ⟨hx, hb, hml, hown, hw0⟩ (g_needPower l dC dI h0 (.ref hd) v_buffer v_fetched v_compared v_maker v_writer i_madeDocuments i_fetchedSteps hp p_i_going p_i_writesLeft) (cwV 0 hw0 (gd_V 322 323 324 226 325 rfl rfl rfl rfl rfl) rfl rfl rfl (by decide +kernel) ⟨by decide +kernel, by decide +kernel⟩) (prV_R hPc hKc hN (va_recv hKc hPc (ci := 0) (q0 := 0) rfl rfl)) rfl rfl hl.1 rfl (lv_room (Nat.le_of_ble_eq_true rfl)) d_K_dropDocument_1 ⟨by decide +kernel, by decide +kernel⟩) ?_
  refine lv_aload_n hx hb d_K_dropDocument_4 rfl (lv_at hl 0 rfl) ?_
  refine lv_iload_n hx hb d_K_dropDocument_5 rfl (lv_at hl 1 rfl) ?_
  have hPc := hP.sub (ws' := [(h0, .inr (0, [.ref hd, v_buffer, v_fetched, v_compared, v_maker, v_writer, .ref hp, .int i_madeDocuments, .int i_fetchedSteps])), (hd, .inl (cD, 8, .inr (.inr (.inr (.inr ((fD)))))))]) [0, 2] rfl
  have hKc := hK.sub (tys' := [(cD, .object R_D)]) [0] rfl
  refine ps_q (va_runV (As := [.int a1]) (rest := []) ⟨hx, hb, hml, hown, hw0⟩ (g_docAt_N l dC dI h0 v_buffer v_fetched v_compared v_maker v_writer (.ref hp) i_madeDocuments i_fetchedSteps hd cD (fD) a1 (by first | assumption | decide | omega)) (cwV 1 hw0 (gd_V 317 318 319 226 320 rfl rfl rfl rfl rfl) rfl rfl rfl (by decide +kernel) ⟨by decide +kernel, by decide +kernel⟩) (prV_R hPc hKc hN (va_recv hKc hPc (ci := 0) (q0 := 0) rfl rfl)) rfl rfl hl.1 rfl (lv_room (Nat.le_of_ble_eq_true rfl)) d_K_dropDocument_6 ⟨by decide +kernel, by decide +kernel⟩) (fun r_1 hr_1 => ?_)
  obtain rfl : r_1 = none := hr_1
  refine W.eq (g2 := F0 m 9 ls [.null]) rfl ?_
  refine lv_ifnonnullN hx hb d_K_dropDocument_9 ?_
  refine lv_iconst (v := 0) hx hb d_K_dropDocument_12 (by decide) ?_
  exact W.zret (v := 0) (ty := .boolean) hx hb hr rfl (fun t ht hW => ⟨0, rfl, rfl, ht⟩) (fun q h => by cases h) d_K_dropDocument_13
set_option maxHeartbeats 4000000 in
set_option maxRecDepth 100000 in
theorem g_drop_T (l : Launch) (dC : Nat → ClassId) (dI : Nat → Nat → Nat) (sz : Nat) (h0 : Nat) (v_buffer : Value) (v_fetched : Value) (v_compared : Value) (v_maker : Value) (v_writer : Value) (i_madeDocuments : Int32) (i_fetchedSteps : Int32) (hp : Nat) (go : Option Nat) (wl : Int32) (hd : Nat) (cD : ClassId) (fD : Nat → Option Nat) (i : Nat) (ha : Nat) (hg : ∀ w, go = some w → wl = nI w ∧ w < 2 ^ 31) (hle : ∀ w, go = some w → 1 ≤ w) (hi8 : i < 8) (hdS : atN 8 fD (nI i) = some ha) : Met l y_K_dropDocument k_K_dropDocument ({ frames := 2, cells := 0, slots := 0, locals := 42 } : Room) (va_Pc [.ref h0, .int (nI i)] (pc_E (dC, dI) [(h0, .inr (0, [.ref hd, v_buffer, v_fetched, v_compared, v_maker, v_writer, .ref hp, .int i_madeDocuments, .int i_fetchedSteps])), (hp, .inr (4, [.int 0, .int (bI go.isSome), .int wl])), (hd, .inl (cD, 8, .inr (.inr (.inr (.inr (fD))))))] [(cD, .object R_D)] sz)) (va_Qi (fun (r : Int32) (_ : Unit) => r = 1) (fun (_ : Unit) t => ∃ (wl2 : Int32), (∀ w, go = some w → wl2 = nI (w - 1)) ∧ at_E (dC, dI) (va_A [(h0, .inr (0, [.ref hd, v_buffer, v_fetched, v_compared, v_maker, v_writer, .ref hp, .int i_madeDocuments, .int i_fetchedSteps])), (hp, .inr (4, [.int 0, .int (bI go.isSome), .int wl])), (hd, .inl (cD, 8, .inr (.inr (.inr (.inr (fD))))))] sz) [(h0, .inr (0, [.ref hd, v_buffer, v_fetched, v_compared, v_maker, v_writer, .ref hp, .int i_madeDocuments, .int i_fetchedSteps])), (hp, .inr (4, [.int 0, .int (bI go.isSome), .int wl2])), (hd, .inl (cD, 8, .inr (.inr (.inr (.inr ((va_up fD i none)))))))] [(cD, .object R_D)] t) (va_A [(h0, .inr (0, [.ref hd, v_buffer, v_fetched, v_compared, v_maker, v_writer, .ref hp, .int i_madeDocuments, .int i_fetchedSteps])), (hp, .inr (4, [.int 0, .int (bI go.isSome), .int wl])), (hd, .inl (cD, 8, .inr (.inr (.inr (.inr (fD))))))] sz)) 0 0 (va_A [(h0, .inr (0, [.ref hd, v_buffer, v_fetched, v_compared, v_maker, v_writer, .ref hp, .int i_madeDocuments, .int i_fetchedSteps])), (hp, .inr (4, [.int 0, .int (bI go.isSome), .int wl])), (hd, .inl (cD, 8, .inr (.inr (.inr (.inr (fD))))))] sz) := by
  refine Met.ofW (cc := prog_1_method_10_code) (maxL := 2) (ret := (some .boolean)) (by decide) rfl ?_
  intro p e s m args below meth c s₁ B hml hv
  obtain ⟨rfl, hsz, hP, hK, hD0, hN⟩ := hv
  have hx := B.exec
  have hb := B.bytes
  have hr := B.returns
  have hts := atoms_spec (ws := k_K_dropDocument) B.pre
  have hw0 : ∀ w ∈ w0, w.before _ s = true := fun w h => hts w (List.mem_cons_of_mem _ h)
  have hown : s.vm.findClass R_K = some m.cls := findClass_of_methodNamed B.named
  have hlocks := B.notSynchronized
  subst hsz
  have hD := hD0.self (sz := s.heap.size)
  generalize hAe : va_A [(h0, .inr (0, [.ref hd, v_buffer, v_fetched, v_compared, v_maker, v_writer, .ref hp, .int i_madeDocuments, .int i_fetchedSteps])), (hp, .inr (4, [.int 0, .int (bI go.isSome), .int wl])), (hd, .inl (cD, 8, .inr (.inr (.inr (.inr (fD))))))] s.heap.size = A at hD ⊢
  have hA : ∀ q : Nat, s.heap.size ≤ q → A q := fun q h => by rw [← hAe]; exact Or.inr h
  have hS : va_S A s.heap s.heap [] := va_S.rf
  have hP : va_P (dC, dI) vwCl [(h0, .inr (0, [.ref hd, v_buffer, v_fetched, v_compared, v_maker, v_writer, .ref hp, .int i_madeDocuments, .int i_fetchedSteps])), (hp, .inr (4, [.int 0, .int (bI go.isSome), .int wl])), (hd, .inl (cD, 8, .inr (.inr (.inr (.inr (fD))))))] s.heap := hP
  have hl := lv_entry ([.ref h0, .int (nI i)]) (n := 2) (Nat.le_of_ble_eq_true rfl)
  rw [lg_entry_eq]
  generalize (lg_sl ([.ref h0, .int (nI i)]) ++ List.replicate (2 - (lg_sl ([.ref h0, .int (nI i)])).length) Slot.unset).toArray = ls at hl ⊢
  have hl : lv_has ls 2 [(0, .ref h0), (1, .int (nI i))] := hl
  refine lv_aload_n hx hb d_K_dropDocument_0 rfl (lv_at hl 0 rfl) ?_
  have hPc := hP.sub (ws' := [(h0, .inr (0, [.ref hd, v_buffer, v_fetched, v_compared, v_maker, v_writer, .ref hp, .int i_madeDocuments, .int i_fetchedSteps])), (hp, .inr (4, [.int 0, .int (bI go.isSome), .int wl]))]) [0, 1] rfl
  have hKc := hK.sub (tys' := []) [] rfl
  refine ps_v (va_runV (As := []) (rest := []) ⟨hx, hb, hml, hown, hw0⟩ (g_needPower l dC dI h0 (.ref hd) v_buffer v_fetched v_compared v_maker v_writer i_madeDocuments i_fetchedSteps hp (bI go.isSome) wl) (cwV 0 hw0 (gd_V 322 323 324 226 325 rfl rfl rfl rfl rfl) rfl rfl rfl (by decide +kernel) ⟨by decide +kernel, by decide +kernel⟩) (prV_R hPc hKc hN (va_recv hKc hPc (ci := 0) (q0 := 0) rfl rfl)) rfl rfl hl.1 rfl (lv_room (Nat.le_of_ble_eq_true rfl)) d_K_dropDocument_1 ⟨by decide +kernel, by decide +kernel⟩) ?_
  refine lv_aload_n hx hb d_K_dropDocument_4 rfl (lv_at hl 0 rfl) ?_
  refine lv_iload_n hx hb d_K_dropDocument_5 rfl (lv_at hl 1 rfl) ?_
  have hPc := hP.sub (ws' := [(h0, .inr (0, [.ref hd, v_buffer, v_fetched, v_compared, v_maker, v_writer, .ref hp, .int i_madeDocuments, .int i_fetchedSteps])), (hd, .inl (cD, 8, .inr (.inr (.inr (.inr ((fD)))))))]) [0, 2] rfl
  have hKc := hK.sub (tys' := [(cD, .object R_D)]) [0] rfl
  refine ps_q (va_runV (As := [.int (nI i)]) (rest := []) ⟨hx, hb, hml, hown, hw0⟩ (g_docAt_S l dC dI h0 v_buffer v_fetched v_compared v_maker v_writer (.ref hp) i_madeDocuments i_fetchedSteps hd cD (fD) (nI i) ha (by first | assumption | decide | omega)) (cwV 1 hw0 (gd_V 317 318 319 226 320 rfl rfl rfl rfl rfl) rfl rfl rfl (by decide +kernel) ⟨by decide +kernel, by decide +kernel⟩) (prV_R hPc hKc hN (va_recv hKc hPc (ci := 0) (q0 := 0) rfl rfl)) rfl rfl hl.1 rfl (lv_room (Nat.le_of_ble_eq_true rfl)) d_K_dropDocument_6 ⟨by decide +kernel, by decide +kernel⟩) (fun r_1 hr_1 => ?_)
  obtain rfl : r_1 = some ha := hr_1
  refine W.eq (g2 := F0 m 9 ls [.ref ha]) rfl ?_
  refine lv_ifnonnull (tgt := 14) hx hb d_K_dropDocument_9 (by decide) ?_
  refine lv_aload_n hx hb d_K_dropDocument_14 rfl (lv_at hl 0 rfl) ?_
  refine lv_iconst (v := 1) hx hb d_K_dropDocument_15 (by decide) ?_
  have hPc := hP.sub (ws' := [(h0, .inr (0, [.ref hd, v_buffer, v_fetched, v_compared, v_maker, v_writer, .ref hp, .int i_madeDocuments, .int i_fetchedSteps])), (hp, .inr (4, [.int 0, .int (bI go.isSome), .int wl]))]) [0, 1] rfl
  have hKc := hK.sub (tys' := []) [] rfl
  have hDc := hD.sub (ws' := [(h0, .inr (0, [.ref hd, v_buffer, v_fetched, v_compared, v_maker, v_writer, .ref hp, .int i_madeDocuments, .int i_fetchedSteps])), (hp, .inr (4, [.int 0, .int (bI go.isSome), .int wl]))]) [0, 1] (by decide) rfl
  have hFc := va_free (wc := [(h0, .inr (0, [.ref hd, v_buffer, v_fetched, v_compared, v_maker, v_writer, .ref hp, .int i_madeDocuments, .int i_fetchedSteps])), (hp, .inr (4, [.int 0, .int (bI go.isSome), .int wl]))]) hD hS hA [0, 1] rfl
  refine va_callv (va_runV (As := [.int 1]) (rest := []) ⟨hx, hb, hml, hown, hw0⟩ (g_spend l dC dI s.heap.size h0 (.ref hd) v_buffer v_fetched v_compared v_maker v_writer i_madeDocuments i_fetchedSteps hp _ wl 1 (by first | assumption | decide | omega) (by first | assumption | decide | omega) (by first | assumption | decide | omega)) (cwV 1 hw0 (gd_V 354 355 356 226 357 rfl rfl rfl rfl rfl) rfl rfl rfl (by decide +kernel) ⟨by decide +kernel, by decide +kernel⟩) (prV_E hPc hKc hDc hN (va_recv hKc hPc (ci := 0) (q0 := 0) rfl rfl)) rfl rfl hl.1 rfl (lv_room (Nat.le_of_ble_eq_true rfl)) d_K_dropDocument_16 ⟨by decide +kernel, by decide +kernel⟩) hS (fun q _ h => hFc q h) hFc (fun u t H1 locs ht hvm hw hB hz1 hk1 hS => ?_)
  obtain ⟨wl2_2, hu_3, hP1, hK1, hD1⟩ := hB
  rw [ht] at hP1
  have hK1 := va_K.moved hvm.symm hK1
  try dsimp only at hw
  obtain ⟨hP, hD⟩ := va_join (wr := [(hd, .inl (cD, 8, .inr (.inr (.inr (.inr (fD))))))]) (w1 := [(h0, .inr (0, [.ref hd, v_buffer, v_fetched, v_compared, v_maker, v_writer, .ref hp, .int i_madeDocuments, .int i_fetchedSteps])), (hp, .inr (4, [.int 0, .int (bI go.isSome), .int wl2_2]))]) hP hD [0, 1] [2] rfl rfl (by decide) (by decide) hk1 hFc hP1 hD1
  generalize H1 = H at hP hS ⊢
  replace hP : va_P (dC, dI) vwCl [(hd, .inl (cD, 8, .inr (.inr (.inr (.inr (fD)))))), (h0, .inr (0, [.ref hd, v_buffer, v_fetched, v_compared, v_maker, v_writer, .ref hp, .int i_madeDocuments, .int i_fetchedSteps])), (hp, .inr (4, [.int 0, .int (bI go.isSome), .int wl2_2]))] H := hP
  replace hD : va_D A [(hd, .inl (cD, 8, .inr (.inr (.inr (.inr (fD)))))), (h0, .inr (0, [.ref hd, v_buffer, v_fetched, v_compared, v_maker, v_writer, .ref hp, .int i_madeDocuments, .int i_fetchedSteps])), (hp, .inr (4, [.int 0, .int (bI go.isSome), .int wl2_2]))] := hD
  replace hK : va_K (dC, dI) vwCl [(cD, .object R_D)] s := hK
  · have hz9 := hi8
    refine lv_aload_n hx hb d_K_dropDocument_19 rfl (lv_at hl 0 rfl) ?_
    refine va_get (D := (dC, dI)) (ci := 0) (v := .ref hd) (C := R_K) (T := F_K) (N := 9) hx hb hw0 in_K hown hK hP 1 rfl rfl 0 (by decide) (hw0 (.fieldLink R_K 11 "TextKeeper" "documents" "[LTextKeeper$Document;") (List.mem_of_getElem? (i := 79) rfl)) (fun _ h9 => h9) rfl d_K_dropDocument_20 ?_
    refine lv_iload_n hx hb d_K_dropDocument_23 rfl (lv_at hl 1 rfl) ?_
    refine lv_null hx hb d_K_dropDocument_24 ?_
    refine va_astqN hx hb hK hP hD hS 0 0 rfl rfl (vp_in_nI hi8 (by decide)) d_K_dropDocument_25 (fun H locs hP hD hS => ?_)
    replace hP : va_P (dC, dI) vwCl [(hd, .inl (cD, 8, .inr (.inr (.inr (.inr (va_up (fD) (Int32.toNatClampNeg (nI i)) none)))))), (h0, .inr (0, [.ref hd, v_buffer, v_fetched, v_compared, v_maker, v_writer, .ref hp, .int i_madeDocuments, .int i_fetchedSteps])), (hp, .inr (4, [.int 0, .int (bI go.isSome), .int wl2_2]))] H := hP
    replace hD : va_D A [(hd, .inl (cD, 8, .inr (.inr (.inr (.inr (va_up (fD) (Int32.toNatClampNeg (nI i)) none)))))), (h0, .inr (0, [.ref hd, v_buffer, v_fetched, v_compared, v_maker, v_writer, .ref hp, .int i_madeDocuments, .int i_fetchedSteps])), (hp, .inr (4, [.int 0, .int (bI go.isSome), .int wl2_2]))] := hD
    have eS : va_up (fD) (Int32.toNatClampNeg (nI i)) none = va_up fD i none := by rw [nI_clamp (by omega)]
    rw [eS] at hP hD
    refine lv_iconst (v := 1) hx hb d_K_dropDocument_26 (by decide) ?_
    have hP9 := hP.sub (ws' := [(h0, .inr (0, [.ref hd, v_buffer, v_fetched, v_compared, v_maker, v_writer, .ref hp, .int i_madeDocuments, .int i_fetchedSteps])), (hp, .inr (4, [.int 0, .int (bI go.isSome), .int wl2_2])), (hd, .inl (cD, 8, .inr (.inr (.inr (.inr ((va_up fD i none)))))))]) [1, 2, 0] rfl
    have hD9 := hD.sub (ws' := [(h0, .inr (0, [.ref hd, v_buffer, v_fetched, v_compared, v_maker, v_writer, .ref hp, .int i_madeDocuments, .int i_fetchedSteps])), (hp, .inr (4, [.int 0, .int (bI go.isSome), .int wl2_2])), (hd, .inl (cD, 8, .inr (.inr (.inr (.inr ((va_up fD i none)))))))]) [1, 2, 0] (by decide) rfl
    have hK9 := hK.sub (tys' := [(cD, .object R_D)]) [0] rfl
    exact W.zret (v := 1) (ty := .boolean) hx hb hr rfl (fun t ht hW => ⟨⟨1, (), rfl, rfl, wl2_2, hu_3, by rw [ht]; exact hP9, va_K.moved hW.alike hK9, hD9⟩, hS.F ht⟩) hS.2.2 d_K_dropDocument_27
set_option maxHeartbeats 4000000 in
set_option maxRecDepth 100000 in
theorem g_fetch_N (l : Launch) (dC : Nat → ClassId) (dI : Nat → Nat → Nat) (h0 : Nat) (v_buffer : Value) (v_fetched : Value) (v_compared : Value) (v_maker : Value) (v_writer : Value) (i_madeDocuments : Int32) (i_fetchedSteps : Int32) (hp : Nat) (p_i_going : Int32) (p_i_writesLeft : Int32) (hd : Nat) (cD : ClassId) (fD : Nat → Option Nat) (a1 : Int32) (a2 : Int32) (hdN : atN 8 fD a1 = none) : Met l y_K_fetch k_K_fetch ({ frames := 1, cells := 0, slots := 0, locals := 21 } : Room) (va_Pc [.ref h0, .int a1, .int a2] (pc_R (dC, dI) [(h0, .inr (0, [.ref hd, v_buffer, v_fetched, v_compared, v_maker, v_writer, .ref hp, .int i_madeDocuments, .int i_fetchedSteps])), (hp, .inr (4, [.int 0, .int p_i_going, .int p_i_writesLeft])), (hd, .inl (cD, 8, .inr (.inr (.inr (.inr (fD))))))] [(cD, .object R_D)])) (vp_Si (fun r => r = (-1))) 0 0 (fun _ => False) := by
  refine Met.ofW (cc := prog_1_method_6_code) (maxL := 5) (ret := (some .int)) (by decide) rfl ?_
  intro p e s m args below meth c s₁ B hml hv
  obtain ⟨rfl, hP, hK, hN⟩ := hv
  have hx := B.exec
  have hb := B.bytes
  have hr := B.returns
  have hts := atoms_spec (ws := k_K_fetch) B.pre
  have hw0 : ∀ w ∈ w0, w.before _ s = true := fun w h => hts w (List.mem_cons_of_mem _ h)
  have hown : s.vm.findClass R_K = some m.cls := findClass_of_methodNamed B.named
  have hlocks := B.notSynchronized
  have hP : va_P (dC, dI) vwCl [(h0, .inr (0, [.ref hd, v_buffer, v_fetched, v_compared, v_maker, v_writer, .ref hp, .int i_madeDocuments, .int i_fetchedSteps])), (hp, .inr (4, [.int 0, .int p_i_going, .int p_i_writesLeft])), (hd, .inl (cD, 8, .inr (.inr (.inr (.inr (fD))))))] s.heap := hP
  have hl := lv_entry ([.ref h0, .int a1, .int a2]) (n := 5) (Nat.le_of_ble_eq_true rfl)
  rw [lg_entry_eq]
  generalize (lg_sl ([.ref h0, .int a1, .int a2]) ++ List.replicate (5 - (lg_sl ([.ref h0, .int a1, .int a2])).length) Slot.unset).toArray = ls at hl ⊢
  have hl : lv_has ls 5 [(0, .ref h0), (1, .int a1), (2, .int a2)] := hl
  refine lv_aload_n hx hb d_K_fetch_0 rfl (lv_at hl 0 rfl) ?_
  have hPc := hP.sub (ws' := [(h0, .inr (0, [.ref hd, v_buffer, v_fetched, v_compared, v_maker, v_writer, .ref hp, .int i_madeDocuments, .int i_fetchedSteps])), (hp, .inr (4, [.int 0, .int p_i_going, .int p_i_writesLeft]))]) [0, 1] rfl
  have hKc := hK.sub (tys' := []) [] rfl
  refine ps_v (va_runV (As := []) (rest := []) ⟨hx, hb, hml, hown, hw0⟩ (g_needPower l dC dI h0 (.ref hd) v_buffer v_fetched v_compared v_maker v_writer i_madeDocuments i_fetchedSteps hp p_i_going p_i_writesLeft) (cwV 0 hw0 (gd_V 322 323 324 226 325 rfl rfl rfl rfl rfl) rfl rfl rfl (by decide +kernel) ⟨by decide +kernel, by decide +kernel⟩) (prV_R hPc hKc hN (va_recv hKc hPc (ci := 0) (q0 := 0) rfl rfl)) rfl rfl hl.1 rfl (lv_room (Nat.le_of_ble_eq_true rfl)) d_K_fetch_1 ⟨by decide +kernel, by decide +kernel⟩) ?_
  refine lv_aload_n hx hb d_K_fetch_4 rfl (lv_at hl 0 rfl) ?_
  refine lv_iload_n hx hb d_K_fetch_5 rfl (lv_at hl 1 rfl) ?_
  have hPc := hP.sub (ws' := [(h0, .inr (0, [.ref hd, v_buffer, v_fetched, v_compared, v_maker, v_writer, .ref hp, .int i_madeDocuments, .int i_fetchedSteps])), (hd, .inl (cD, 8, .inr (.inr (.inr (.inr ((fD)))))))]) [0, 2] rfl
  have hKc := hK.sub (tys' := [(cD, .object R_D)]) [0] rfl
  refine ps_q (va_runV (As := [.int a1]) (rest := []) ⟨hx, hb, hml, hown, hw0⟩ (g_docAt_N l dC dI h0 v_buffer v_fetched v_compared v_maker v_writer (.ref hp) i_madeDocuments i_fetchedSteps hd cD (fD) a1 (by first | assumption | decide | omega)) (cwV 1 hw0 (gd_V 317 318 319 226 320 rfl rfl rfl rfl rfl) rfl rfl rfl (by decide +kernel) ⟨by decide +kernel, by decide +kernel⟩) (prV_R hPc hKc hN (va_recv hKc hPc (ci := 0) (q0 := 0) rfl rfl)) rfl rfl hl.1 rfl (lv_room (Nat.le_of_ble_eq_true rfl)) d_K_fetch_6 ⟨by decide +kernel, by decide +kernel⟩) (fun r_1 hr_1 => ?_)
  obtain rfl : r_1 = none := hr_1
  refine W.eq (g2 := F0 m 9 ls [.null]) rfl ?_
  refine lv_astore_nN (lv' := [(3, .null), (0, .ref h0), (1, .int a1), (2, .int a2)]) hx hb d_K_fetch_9 rfl hl (by decide) rfl (fun ls hl => ?_)
  refine lv_aload_nN hx hb d_K_fetch_10 rfl (lv_at hl 0 rfl) ?_
  refine lv_ifnullN (tgt := 22) hx hb d_K_fetch_11 (by decide) ?_
  refine lv_iconst (v := (-1)) hx hb d_K_fetch_22 (by decide) ?_
  exact W.iret (v := (-1)) hx hb hr (fun t ht hW => ⟨(-1), rfl, rfl, ht⟩) (fun q h => by cases h) d_K_fetch_23
set_option maxHeartbeats 4000000 in
set_option maxRecDepth 100000 in
theorem g_fetch_A (l : Launch) (dC : Nat → ClassId) (dI : Nat → Nat → Nat) (h0 : Nat) (v_buffer : Value) (v_fetched : Value) (v_compared : Value) (v_maker : Value) (v_writer : Value) (i_madeDocuments : Int32) (i_fetchedSteps : Int32) (hp : Nat) (p_i_going : Int32) (p_i_writesLeft : Int32) (hd : Nat) (cD : ClassId) (fD : Nat → Option Nat) (hdo : Nat) (hra : Nat) (cR : ClassId) (df : Nat) (dn : Nat) (fr : Nat → Option Nat) (a1 : Int32) (a2 : Int32) (hdS : atN 8 fD a1 = some hdo) (hdn : dn ≤ 64) (hna : a2 < nI df ∨ nI dn ≤ a2) : Met l y_K_fetch k_K_fetch ({ frames := 1, cells := 0, slots := 0, locals := 21 } : Room) (va_Pc [.ref h0, .int a1, .int a2] (pc_R (dC, dI) [(h0, .inr (0, [.ref hd, v_buffer, v_fetched, v_compared, v_maker, v_writer, .ref hp, .int i_madeDocuments, .int i_fetchedSteps])), (hp, .inr (4, [.int 0, .int p_i_going, .int p_i_writesLeft])), (hd, .inl (cD, 8, .inr (.inr (.inr (.inr (fD)))))), (hdo, .inr (5, [.ref hra, .int (nI df), .int (nI dn)])), (hra, .inl (cR, 64, .inr (.inr (.inr (.inr (fr))))))] [(cD, .object R_D), (cR, .object R_V)])) (vp_Si (fun r => r = (-1))) 0 0 (fun _ => False) := by
  refine Met.ofW (cc := prog_1_method_6_code) (maxL := 5) (ret := (some .int)) (by decide) rfl ?_
  intro p e s m args below meth c s₁ B hml hv
  obtain ⟨rfl, hP, hK, hN⟩ := hv
  have hx := B.exec
  have hb := B.bytes
  have hr := B.returns
  have hts := atoms_spec (ws := k_K_fetch) B.pre
  have hw0 : ∀ w ∈ w0, w.before _ s = true := fun w h => hts w (List.mem_cons_of_mem _ h)
  have hown : s.vm.findClass R_K = some m.cls := findClass_of_methodNamed B.named
  have hlocks := B.notSynchronized
  have hP : va_P (dC, dI) vwCl [(h0, .inr (0, [.ref hd, v_buffer, v_fetched, v_compared, v_maker, v_writer, .ref hp, .int i_madeDocuments, .int i_fetchedSteps])), (hp, .inr (4, [.int 0, .int p_i_going, .int p_i_writesLeft])), (hd, .inl (cD, 8, .inr (.inr (.inr (.inr (fD)))))), (hdo, .inr (5, [.ref hra, .int (nI df), .int (nI dn)])), (hra, .inl (cR, 64, .inr (.inr (.inr (.inr (fr))))))] s.heap := hP
  have hl := lv_entry ([.ref h0, .int a1, .int a2]) (n := 5) (Nat.le_of_ble_eq_true rfl)
  rw [lg_entry_eq]
  generalize (lg_sl ([.ref h0, .int a1, .int a2]) ++ List.replicate (5 - (lg_sl ([.ref h0, .int a1, .int a2])).length) Slot.unset).toArray = ls at hl ⊢
  have hl : lv_has ls 5 [(0, .ref h0), (1, .int a1), (2, .int a2)] := hl
  refine lv_aload_n hx hb d_K_fetch_0 rfl (lv_at hl 0 rfl) ?_
  have hPc := hP.sub (ws' := [(h0, .inr (0, [.ref hd, v_buffer, v_fetched, v_compared, v_maker, v_writer, .ref hp, .int i_madeDocuments, .int i_fetchedSteps])), (hp, .inr (4, [.int 0, .int p_i_going, .int p_i_writesLeft]))]) [0, 1] rfl
  have hKc := hK.sub (tys' := []) [] rfl
  refine ps_v (va_runV (As := []) (rest := []) ⟨hx, hb, hml, hown, hw0⟩ (g_needPower l dC dI h0 (.ref hd) v_buffer v_fetched v_compared v_maker v_writer i_madeDocuments i_fetchedSteps hp p_i_going p_i_writesLeft) (cwV 0 hw0 (gd_V 322 323 324 226 325 rfl rfl rfl rfl rfl) rfl rfl rfl (by decide +kernel) ⟨by decide +kernel, by decide +kernel⟩) (prV_R hPc hKc hN (va_recv hKc hPc (ci := 0) (q0 := 0) rfl rfl)) rfl rfl hl.1 rfl (lv_room (Nat.le_of_ble_eq_true rfl)) d_K_fetch_1 ⟨by decide +kernel, by decide +kernel⟩) ?_
  refine lv_aload_n hx hb d_K_fetch_4 rfl (lv_at hl 0 rfl) ?_
  refine lv_iload_n hx hb d_K_fetch_5 rfl (lv_at hl 1 rfl) ?_
  have hPc := hP.sub (ws' := [(h0, .inr (0, [.ref hd, v_buffer, v_fetched, v_compared, v_maker, v_writer, .ref hp, .int i_madeDocuments, .int i_fetchedSteps])), (hd, .inl (cD, 8, .inr (.inr (.inr (.inr ((fD)))))))]) [0, 2] rfl
  have hKc := hK.sub (tys' := [(cD, .object R_D)]) [0] rfl
  refine ps_q (va_runV (As := [.int a1]) (rest := []) ⟨hx, hb, hml, hown, hw0⟩ (g_docAt_S l dC dI h0 v_buffer v_fetched v_compared v_maker v_writer (.ref hp) i_madeDocuments i_fetchedSteps hd cD (fD) a1 hdo (by first | assumption | decide | omega)) (cwV 1 hw0 (gd_V 317 318 319 226 320 rfl rfl rfl rfl rfl) rfl rfl rfl (by decide +kernel) ⟨by decide +kernel, by decide +kernel⟩) (prV_R hPc hKc hN (va_recv hKc hPc (ci := 0) (q0 := 0) rfl rfl)) rfl rfl hl.1 rfl (lv_room (Nat.le_of_ble_eq_true rfl)) d_K_fetch_6 ⟨by decide +kernel, by decide +kernel⟩) (fun r_1 hr_1 => ?_)
  obtain rfl : r_1 = some hdo := hr_1
  refine W.eq (g2 := F0 m 9 ls [.ref hdo]) rfl ?_
  refine lv_astore_n (lv' := [(3, .ref hdo), (0, .ref h0), (1, .int a1), (2, .int a2)]) hx hb d_K_fetch_9 rfl hl (by decide) rfl (fun ls hl => ?_)
  refine lv_aload_n hx hb d_K_fetch_10 rfl (lv_at hl 0 rfl) ?_
  refine lv_ifnull hx hb d_K_fetch_11 ?_
  refine lv_aload_n hx hb d_K_fetch_14 rfl (lv_at hl 0 rfl) ?_
  refine lv_iload_n hx hb d_K_fetch_15 rfl (lv_at hl 3 rfl) ?_
  have hPc := hP.sub (ws' := [(hdo, .inr (5, [.ref hra, .int (nI df), .int (nI dn)])), (hra, .inl (cR, 64, .inr (.inr (.inr (.inr ((fr)))))))]) [3, 4] rfl
  have hKc := hK.sub (tys' := [(cR, .object R_V)]) [1] rfl
  refine ps_i (va_runV (As := [.int a2]) (rest := []) ⟨hx, hb, hml, hown, hw0⟩ (g_asked_F l dC dI hdo hra cR df dn (fr) a2 (by first | assumption | decide | omega)) (cwV 1 hw0 (gd_V 370 371 372 233 373 rfl rfl rfl rfl rfl) rfl rfl rfl (by decide +kernel) ⟨by decide +kernel, by decide +kernel⟩) (prV_R hPc hKc hN (va_recv hKc hPc (ci := 5) (q0 := 0) rfl rfl)) rfl rfl hl.1 rfl (lv_room (Nat.le_of_ble_eq_true rfl)) d_K_fetch_16 ⟨by decide +kernel, by decide +kernel⟩) (fun r_2 hr_2 => ?_)
  obtain rfl : r_2 = 0 := hr_2
  refine lv_if_ne (tgt := 24) hx hb d_K_fetch_19 (by decide) (fun h9 => absurd h9 (by decide +kernel)) (fun _ => ?_)
  refine lv_iconst (v := (-1)) hx hb d_K_fetch_22 (by decide) ?_
  exact W.iret (v := (-1)) hx hb hr (fun t ht hW => ⟨(-1), rfl, rfl, ht⟩) (fun q h => by cases h) d_K_fetch_23
