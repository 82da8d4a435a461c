/-! Own rows beside the kit's: premises and ends of contracts in one word, calls of methods that read only, calls of static methods with an exception table, methods that throw, and their calls. -/
/-- the words of nest mates, of arrays of references: they are no words of the tables' kind, so a contract carries them -/
def nw_ok (U : State) : Prop := (∀ w ∈ nw0, va_Nw w U) ∧ ∀ C ∈ ao0, va_AO C U
def pc_R (D : va_G) (ws : va_W) (tys : List (ClassId × FieldType)) : State → Prop := fun U => va_P D vwCl ws U.heap ∧ va_K D vwCl tys U ∧ nw_ok U
def pc_E (D : va_G) (ws : va_W) (tys : List (ClassId × FieldType)) (sz : Nat) : State → Prop := fun U => U.heap.size = sz ∧ va_P D vwCl ws U.heap ∧ va_K D vwCl tys U ∧ va_D (fun _ => True) ws ∧ nw_ok U
def at_E (D : va_G) (A : Nat → Prop) (ws : va_W) (tys : List (ClassId × FieldType)) (t : State) : Prop := va_P D vwCl ws t.heap ∧ va_K D vwCl tys t ∧ va_D A ws
theorem nw_ok.warm {s U : State} (hW : s.WarmedH U.vm) (h : nw_ok s) : nw_ok U := by
  refine ⟨fun w hw => ?_, fun C hC => ?_⟩
  · have h1 := h.1 w hw
    have h2 := nw0_kind w hw
    cases w <;> first | exact va_Nw.warmF hW h1 | exact va_Nw.warmM hW h1 | exact va_Nw.warmD hW h1 | exact va_Nw.warmC hW h1 | (simp [nw_kind] at h2; done)
  · exact va_AO.moved hW.alike (h.2 C hC)
theorem nw_ok.same {s U : State} (hW : s.vm = U.vm) (h : nw_ok s) : nw_ok U :=
  ⟨fun w hw => va_Nw.same (nw0_tab w hw) hW (h.1 w hw), fun C hC => va_AO.moved (by rw [hW]; exact Vm.Alike.refl _) (h.2 C hC)⟩
section PRE
variable {s : State} {H : Heap} {C : String} {b : Addr} {As : List Value} {D : va_G} {ws : va_W} {tys : List (ClassId × FieldType)}
theorem prV_R (hP : va_P D vwCl ws H) (hK : va_K D vwCl tys s) (hN : nw_ok s) (hrec : ∃ cell : Cell, H[b]? = some cell ∧ cell.vm.isStatics = false ∧ s.vm.findClass C = some cell.cls) : PreV s H C b (va_Pc (.ref b :: As) (pc_R D ws tys)) As :=
  ⟨fun a U g mk q => ⟨q.1, q.2.1, va_K.moved (u := U) (U := U.calling g mk a) (Vm.Alike.refl U.vm) q.2.2.1, nw_ok.same (s := U) (U := U.calling g mk a) rfl q.2.2.2⟩, hrec, fun U hU hW => ⟨rfl, by rw [hU]; exact hP, va_K.moved hW.alike hK, hN.warm hW⟩⟩
theorem prS_R (hP : va_P D vwCl ws H) (hK : va_K D vwCl tys s) (hN : nw_ok s) : PreS s H (va_Pc As (pc_R D ws tys)) As :=
  ⟨fun a U g mk q => ⟨q.1, q.2.1, va_K.moved (u := U) (U := U.calling g mk a) (Vm.Alike.refl U.vm) q.2.2.1, nw_ok.same (s := U) (U := U.calling g mk a) rfl q.2.2.2⟩, fun U hU hW => ⟨rfl, by rw [hU]; exact hP, va_K.moved hW.alike hK, hN.warm hW⟩⟩
theorem prV_E {A : Nat → Prop} (hP : va_P D vwCl ws H) (hK : va_K D vwCl tys s) (hD : va_D A ws) (hN : nw_ok s) (hrec : ∃ cell : Cell, H[b]? = some cell ∧ cell.vm.isStatics = false ∧ s.vm.findClass C = some cell.cls) : PreV s H C b (va_Pc (.ref b :: As) (pc_E D ws tys H.size)) As :=
  ⟨fun a U g mk q => ⟨q.1, q.2.1, q.2.2.1, va_K.moved (u := U) (U := U.calling g mk a) (Vm.Alike.refl U.vm) q.2.2.2.1, q.2.2.2.2.1, nw_ok.same (s := U) (U := U.calling g mk a) rfl q.2.2.2.2.2⟩, hrec, fun U hU hW => ⟨rfl, by rw [hU], by rw [hU]; exact hP, va_K.moved hW.alike hK, hD.weaken (fun _ _ _ _ => trivial), hN.warm hW⟩⟩
theorem prS_E {A : Nat → Prop} (hP : va_P D vwCl ws H) (hK : va_K D vwCl tys s) (hD : va_D A ws) (hN : nw_ok s) : PreS s H (va_Pc As (pc_E D ws tys H.size)) As :=
  ⟨fun a U g mk q => ⟨q.1, q.2.1, q.2.2.1, va_K.moved (u := U) (U := U.calling g mk a) (Vm.Alike.refl U.vm) q.2.2.2.1, q.2.2.2.2.1, nw_ok.same (s := U) (U := U.calling g mk a) rfl q.2.2.2.2.2⟩, fun U hU hW => ⟨rfl, by rw [hU], by rw [hU]; exact hP, va_K.moved hW.alike hK, hD.weaken (fun _ _ _ _ => trivial), hN.warm hW⟩⟩
end PRE
section GD
theorem gd_ok {w : Cond} (h : w ∈ w0) : (w.onTables && w.keeps) = true ∨ ∃ ty, w = .arrayClass ty := (w0_good w h)
theorem gd_w0 : GoodIn w0 w0 := fun w h => ⟨h, gd_ok h⟩
theorem gd_I {y : MethodName} {cd : ByteArray} {mL : Nat} {rt : Option FieldType} (i : Nat) (h : w0[i]? = some (.code y cd mL rt)) : GoodIn w0 (.code y cd mL rt :: w0) := by
  intro w hw
  rcases List.mem_cons.mp hw with rfl | hw
  · exact ⟨List.mem_of_getElem? h, gd_ok (List.mem_of_getElem? h)⟩
  · exact ⟨hw, gd_ok hw⟩
theorem gd_V {own C : String} {idx : Nat} {y : MethodName} {cd : ByteArray} {mL : Nat} {rt : Option FieldType} (i1 i2 i3 i4 i5 : Nat) (h1 : w0[i1]? = some (.methodLink own idx y)) (h2 : w0[i2]? = some (.instanceMethod y)) (h3 : w0[i3]? = some (.selects C y y)) (h4 : w0[i4]? = some (.initialized C)) (h5 : w0[i5]? = some (.code y cd mL rt)) : GoodIn w0 (wsV own idx C y (.code y cd mL rt :: w0)) := by
  intro w hw
  unfold wsV at hw
  rcases List.mem_append.mp hw with hw | hw
  · have hm : w ∈ w0 := by
      simp only [List.mem_cons, List.not_mem_nil, or_false] at hw
      rcases hw with rfl | rfl | rfl | rfl
      · exact List.mem_of_getElem? h1
      · exact List.mem_of_getElem? h2
      · exact List.mem_of_getElem? h3
      · exact List.mem_of_getElem? h4
    exact ⟨hm, gd_ok hm⟩
  · exact gd_I i5 h5 w hw
end GD
section PS
variable {p : Program} {l : Launch} {e : Env} {R : Room} {s : State} {m : MethodId} {args : Array Value} {below : List Frame} {meth : Method} {c : Code} {H : Heap} {locs : List Loc} {cells slots : Nat} {Q : State → Prop}
variable {pc : Nat} {ls : Array Slot} {rest st0 : List Value} {a : Array Value}
theorem ps_i {post : Int32 → Prop} (hr : va_Run p l e R s m args below meth c H locs cells slots 0 0 (F0 m pc ls st0) rest (vp_Si post a) (fun _ => False)) (kk : ∀ r : Int32, post r → W p l e R s m args below meth c H locs cells slots Q (F0 m (pc + 3) ls (.int r :: rest))) : W p l e R s m args below meth c H locs cells slots Q (F0 m pc ls st0) := by
  intro T hT X
  obtain ⟨v, st₀, t, T', L, h0, X', hL, e1, -, ⟨r, hv, hp, hh⟩, st⟩ := hr T hT X
  cases hv
  obtain ⟨t2, a1, b1⟩ := kk r hp T' (by rw [e1, hh, h0]) (Stand.forget X' (fun q h => (hL q h).elim))
  exact ⟨t2, st t2 a1, b1⟩
theorem ps_q {post : Option Nat → Prop} (hr : va_Run p l e R s m args below meth c H locs cells slots 0 0 (F0 m pc ls st0) rest (va_Sq post a) (fun _ => False)) (kk : ∀ r : Option Nat, post r → W p l e R s m args below meth c H locs cells slots Q (F0 m (pc + 3) ls (va_rf r :: rest))) : W p l e R s m args below meth c H locs cells slots Q (F0 m pc ls st0) := by
  intro T hT X
  obtain ⟨v, st₀, t, T', L, h0, X', hL, e1, -, ⟨r, hv, hp, hh⟩, st⟩ := hr T hT X
  cases hv
  obtain ⟨t2, a1, b1⟩ := kk r hp T' (by rw [e1, hh, h0]) (Stand.forget X' (fun q h => (hL q h).elim))
  exact ⟨t2, st t2 a1, b1⟩
theorem ps_v {post : Unit → Prop} (hr : va_Run p l e R s m args below meth c H locs cells slots 0 0 (F0 m pc ls st0) rest (va_Sv post a) (fun _ => False)) (kk : W p l e R s m args below meth c H locs cells slots Q (F0 m (pc + 3) ls rest)) : W p l e R s m args below meth c H locs cells slots Q (F0 m pc ls st0) := by
  intro T hT X
  obtain ⟨v, st₀, t, T', L, h0, X', hL, e1, -, ⟨hv, hp, hh⟩, st⟩ := hr T hT X
  cases hv
  obtain ⟨t2, a1, b1⟩ := kk T' (by rw [e1, hh, h0]) (Stand.forget X' (fun q h => (hL q h).elim))
  exact ⟨t2, st t2 a1, b1⟩
end PS
/-! numbers -/
theorem x_nn {i : Int32} (h : ¬ i < 0) (h2 : ¬ (0 : Int32) ≤ i) : False := h2 (Int32.not_lt.mp h)
theorem x_in {x N : Int32} {n : Nat} (hN : N.toInt = n) (h1 : ¬ x < 0) (h2 : ¬ N ≤ x) : vp_in x n := by
  rw [vp_in_iff]
  have a := Int32.not_lt.mp h1
  have b := Int32.not_le.mp h2
  rw [Int32.le_iff_toInt_le] at a
  rw [Int32.lt_iff_toInt_lt] at b
  have z : (0 : Int32).toInt = 0 := by decide
  omega
theorem x_m1 {i : Int32} (h : ¬ i < 0) (h2 : ¬ (-1 : Int32) ≤ i) : False := by
  have a := Int32.not_lt.mp h
  rw [Int32.le_iff_toInt_le] at a h2
  have z : (0 : Int32).toInt = 0 := by decide
  have z1 : (-1 : Int32).toInt = -1 := by decide
  omega
theorem x_lt256 {k : Nat} (h : ¬ (256 : Int32) ≤ nI k) (hk : k ≤ 256) : k < 256 := by
  rcases Nat.lt_or_ge k 256 with q | q
  · exact q
  · exact absurd (show nI 256 ≤ nI k from nI_le q (by omega)) h
theorem x_geN {j N : Nat} (hN : N < 2 ^ 31) (hj : j ≤ N) (h : nI N ≤ nI j) : j = N := by
  have := (nI_leI hN (by omega)).mp h
  omega
theorem x_ltN {j N : Nat} (hN : N < 2 ^ 31) (hj : j ≤ N) (h : ¬ nI N ≤ nI j) : j < N := by
  rcases Nat.lt_or_ge j N with q | q
  · exact q
  · exact absurd (nI_le q (by omega)) h
section SW
abbrev CSW (R : Room) (s : State) (args : Array Value) (own : String) (index : Nat) (y : MethodName) (bytes : ByteArray) (maxL : Nat) (ret : Option FieldType) (hh : List (Nat × Nat × Nat × Nat)) (ws : List Cond) (rm : Room) (mc ms n : Nat) : Prop :=
  (rm.cells = mc ∧ rm.slots = ms ∧ rm.frames + 1 ≤ R.frames ∧ 8 + (maxL + 11) + rm.locals ≤ R.locals ∧ (∀ w ∈ ws, ∀ (a' : Array Value) (U : State), s.WarmedH U.vm → w.before a' U = true) ∧ Cond.codeWith y bytes maxL ret hh ∈ ws) ∧
  (Cond.codeWith y bytes maxL ret hh).before args s = true ∧ (Cond.initialized y.cls).before args s = true ∧ (y.cls ≠ "java/lang/invoke/MethodHandle" ∧ y.cls ≠ "java/lang/invoke/VarHandle") ∧ (∀ sig, parseMethodDescriptor y.desc = some sig → n = sig.parameters.length) ∧ (Cond.methodLink own index y).before args s = true ∧ (Cond.static y).before args s = true
theorem gd_W {y : MethodName} {cd : ByteArray} {mL : Nat} {rt : Option FieldType} {hh : List (Nat × Nat × Nat × Nat)} (i : Nat) (h : w0[i]? = some (.codeWith y cd mL rt hh)) : GoodIn w0 (.codeWith y cd mL rt hh :: w0) := by
  intro w hw
  rcases List.mem_cons.mp hw with rfl | hw
  · exact ⟨List.mem_of_getElem? h, gd_ok (List.mem_of_getElem? h)⟩
  · exact ⟨hw, gd_ok hw⟩
theorem csw_of {R : Room} {s : State} {args : Array Value} {own : String} {index maxL mc ms : Nat} {y : MethodName} {bytes : ByteArray} {ret : Option FieldType} {hh : List (Nat × Nat × Nat × Nat)} {rm : Room} (n : Nat) (ht : ∀ w ∈ w0, w.before args s = true) (i1 i2 i3 i4 : Nat) (h1 : w0[i1]? = some (.codeWith y bytes maxL ret hh)) (h2 : w0[i2]? = some (.methodLink own index y)) (h3 : w0[i3]? = some (.static y)) (h4 : w0[i4]? = some (.initialized y.cls)) (hrc : rm.cells = mc) (hrs : rm.slots = ms)
    (hd : y.cls ≠ "java/lang/invoke/MethodHandle" ∧ y.cls ≠ "java/lang/invoke/VarHandle" ∧ (parseMethodDescriptor y.desc).map (fun d => d.parameters.length) = some n) (hR : rm.frames + 1 ≤ R.frames ∧ 8 + (maxL + 11) + rm.locals ≤ R.locals) : CSW R s args own index y bytes maxL ret hh (.codeWith y bytes maxL ret hh :: w0) rm mc ms n := by
  refine ⟨⟨hrc, hrs, hR.1, hR.2, pay_in ht (gd_W i1 h1), List.mem_cons_self⟩, ht _ (List.mem_of_getElem? h1), ht _ (List.mem_of_getElem? h4), ⟨hd.1, hd.2.1⟩, fun sig h => ?_, ht _ (List.mem_of_getElem? h2), ht _ (List.mem_of_getElem? h3)⟩
  have h2 := hd.2.2
  rw [h] at h2
  exact (Option.some.inj h2).symm
variable {p : Program} {l : Launch} {e : Env} {R : Room} {s : State} {m : MethodId} {args : Array Value} {below : List Frame} {meth : Method} {c : Code} {H : Heap} {locs : List Loc} {cells slots : Nat}
theorem va_runSW {y : MethodName} {bytes cc : ByteArray} {maxL nL mc ms n index : Nat} {ret : Option FieldType} {hh : List (Nat × Nat × Nat × Nat)} {ws : List Cond} {rm : Room} {Pc : Array Value → State → Prop} {Qc : Array Value → State → Outcome → State → Prop} {free : Addr → Prop} {Ts : List Cond} {own : String} {As rest : List Value} {g : JFrame}
    (S : CallFix p m c cc nL s args Ts own) (hM : Met l y ws rm Pc Qc mc ms free) (cw : CSW R s args own index y bytes maxL ret hh ws rm mc ms n) (hp : PreS s H Pc As)
    (hg : g.method = m) (hn : As.length = n) (hsize : g.locals.size = nL) (hstack : g.stack = As.reverse ++ rest) (hW : 2 * g.monitorRoom + (rest.map fun v => v.category).sum ≤ 8) (hdg : decode cc g.pc = .ok (.invokestatic index, 3)) (hf : cells + mc ≤ R.cells ∧ slots + ms ≤ R.slots) :
    va_Run p l e R s m args below meth c H locs cells slots mc ms g rest (Qc As.toArray) (free) := by
  obtain ⟨⟨hrc, hrs, hfr, hlo, hws, hcw⟩, hcode, hini, hy, hlen, hl, hst⟩ := cw
  have hK : Back l R p e below s args y 3 8 (PreOf R mc ms Pc) (PostOf Qc mc ms free) := va_backW (hh := hh) (bytes := bytes) (maxL := maxL) (ret := ret) hM hp.1 hrc hrs hfr hlo hws hcw (fun a' U hW => word_at hW (Or.inl (by first | rfl | simp [Cond.onTables, Cond.keeps, Cond.steady])) hini)
  obtain ⟨hx, hb, hml, ho, -⟩ := S
  intro T hT X
  obtain ⟨mk, methM, cM, hnamed, hmethM, -, -, -, -, -, -, hsigM⟩ := Cond.codeWith_spec hcode
  have hstatic : methM.isStatic = true := Cond.static_spec hnamed hmethM hst
  obtain ⟨kP, hkP, -⟩ := className_of_methodNamed hnamed
  have hinitP : kP.init = .initialized := Cond.initialized_spec (findClass_of_methodNamed hnamed) hkP hini
  obtain ⟨vm₁, X₁, hstep₁⟩ := X.invokestatic hx ho hl hnamed hmethM hstatic hkP hinitP hy (g := g) hg (argsL := As) (rest := rest) (hn.trans (hlen _ hsigM)) hstack (by rw [hb]; exact hdg)
  obtain ⟨v, ⟨U', l2, c2, s2⟩, X', hpost, hsteps⟩ := hK m meth c ⟨T.setVm vm₁, locs, cells, slots⟩ { g with stack := rest } (.invokestatic index) mk As.toArray X₁ hg (hsize.trans hml.symm) (by rw [hb]; exact hdg) hW (X₁.named hnamed) ⟨hf.1, hf.2, hp.2 (T.setVm vm₁) hT X₁.warmed⟩
  obtain ⟨g', mk', t, L, e1, e2, hq, h1, hL, h2, h3⟩ := hpost
  dsimp only [Pt.U, Pt.locs, Pt.cells, Pt.slots] at X' e1 e2 h1 h2 h3 hsteps
  subst h1; subst h2; subst h3
  exact ⟨v, (T.setVm vm₁).calling g' mk' As.toArray, t, U', L, hT, X', hL, e1, e2, hq, fun target h => hstep₁ _ fun acts => by rw [doInvoke_state]; exact hsteps.trans h⟩
end SW
theorem x_fill {g : Nat → Int32} {j : Nat} (hj : j < 512) (h : ∀ i, i < j → g i = (-1)) : ∀ i, i < j + 1 → upd g (Int32.toNatClampNeg (nI j)) (vp_nar .short (-1)) i = (-1) := by
  intro i hi
  rw [nI_clamp (by omega)]
  by_cases e : i = j
  · subst e; rw [pk_us]; decide
  · rw [pk_un e]; exact h i (by omega)
theorem x_up0 {f : Nat → Int64} {x : Int64} : vp_updL f (Int32.toNatClampNeg 0) x 0 = x := by
  rw [sb_cl0]; exact if_pos rfl
theorem x_L6 {L : Nat} (hL : L ≤ 6) (h : ¬ (Int32.ofNat L - 6 : Int32) < 0) : L = 6 := by
  have q : ∀ L, L < 7 → ¬ (Int32.ofNat L - 6 : Int32) < 0 → L = 6 := by decide +kernel
  exact q L (by omega) h
theorem va_S.grow {A : Nat → Prop} {H0 H H1 : Heap} {locs : List Loc} (h : va_S A H0 H locs) (hz : H.size ≤ H1.size) (hk : ∀ q : Nat, q < H.size → H1[q]? = H[q]?) : va_S A H0 H1 locs :=
  ⟨Nat.le_trans h.1 hz, fun q h1 h2 => (hk q (Nat.lt_of_lt_of_le h1 h.1)).trans (h.2.1 q h1 h2), h.2.2⟩
