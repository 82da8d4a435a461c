def tw_ok (U : State) : Prop := vx_Zq Bundle.tN "UNASSIGNED_STACK" Bundle.steD (fun _ => False) U U.heap ∧ vx_Zq Bundle.tN "SUPPRESSED_SENTINEL" Bundle.listD (fun _ => False) U U.heap
theorem tw_ok.move {s U : State} (hvm : s.vm.Alike U.vm) (hh : ∀ a : Nat, a < s.heap.size → U.heap[a]? = s.heap[a]?) (h : tw_ok s) : tw_ok U :=
  ⟨vx_Zq.moved hvm (h.1.kept (fun a ha _ => hh a ha)), vx_Zq.moved hvm (h.2.kept (fun a ha _ => hh a ha))⟩
section PRT
variable {s : State} {H : Heap} {C : String} {b : Addr} {As : List Value} {D : va_G} {ws : va_W} {tys : List (ClassId × FieldType)}
theorem prV_T {A : Nat → Prop} (hP : va_P D vwCl ws H) (hK : va_K D vwCl tys s) (hD : va_D A ws) (hN : nw_ok s) (hTw : tw_ok s) (hh : ∀ a : Nat, a < s.heap.size → H[a]? = s.heap[a]?) (hrec : ∃ cell : Cell, H[b]? = some cell ∧ cell.vm.isStatics = false ∧ s.vm.findClass C = some cell.cls) : PreV s H C b (va_Pc (.ref b :: As) (fun U => pc_E D ws tys H.size U ∧ tw_ok U)) As :=
  ⟨fun a U g mk q => ⟨q.1, ⟨q.2.1.1, q.2.1.2.1, va_K.moved (u := U) (U := U.calling g mk a) (Vm.Alike.refl U.vm) q.2.1.2.2.1, q.2.1.2.2.2.1, nw_ok.same (s := U) (U := U.calling g mk a) rfl q.2.1.2.2.2.2⟩, tw_ok.move (s := U) (U := U.calling g mk a) (Vm.Alike.refl U.vm) (fun _ _ => rfl) q.2.2⟩, hrec, fun U hU hW => ⟨rfl, ⟨by rw [hU], by rw [hU]; exact hP, va_K.moved hW.alike hK, hD.weaken (fun _ _ _ _ => trivial), hN.warm hW⟩, tw_ok.move hW.alike (fun a ha => by rw [hU]; exact hh a ha) hTw⟩⟩
theorem prS_T {A : Nat → Prop} (hP : va_P D vwCl ws H) (hK : va_K D vwCl tys s) (hD : va_D A ws) (hN : nw_ok s) (hTw : tw_ok s) (hh : ∀ a : Nat, a < s.heap.size → H[a]? = s.heap[a]?) : PreS s H (va_Pc As (fun U => pc_E D ws tys H.size U ∧ tw_ok U)) As :=
  ⟨fun a U g mk q => ⟨q.1, ⟨q.2.1.1, q.2.1.2.1, va_K.moved (u := U) (U := U.calling g mk a) (Vm.Alike.refl U.vm) q.2.1.2.2.1, q.2.1.2.2.2.1, nw_ok.same (s := U) (U := U.calling g mk a) rfl q.2.1.2.2.2.2⟩, tw_ok.move (s := U) (U := U.calling g mk a) (Vm.Alike.refl U.vm) (fun _ _ => rfl) q.2.2⟩, fun U hU hW => ⟨rfl, ⟨by rw [hU], by rw [hU]; exact hP, va_K.moved hW.alike hK, hD.weaken (fun _ _ _ _ => trivial), hN.warm hW⟩, tw_ok.move hW.alike (fun a ha => by rw [hU]; exact hh a ha) hTw⟩⟩
end PRT
theorem twN_1 : ∀ w ∈ (vx_at0 "TextKeeper" 142 "java/util/NoSuchElementException" ["java/lang/RuntimeException", "java/lang/Exception"]).filter goodWord, w ∈ w0 := by decide +kernel
theorem twN_2 : ∀ w ∈ (vx_at0 "TextKeeper" 142 "java/util/NoSuchElementException" ["java/lang/RuntimeException", "java/lang/Exception"]).filter (fun w => !goodWord w), w ∈ nw0 := by decide +kernel
theorem twN_g : ∀ w ∈ Cond.classLink "TextKeeper" 140 "java/util/NoSuchElementException" :: Cond.initialized "java/util/NoSuchElementException" :: vx_at0 "TextKeeper" 142 "java/util/NoSuchElementException" ["java/lang/RuntimeException", "java/lang/Exception"], vx_ot w = true := by decide +kernel
theorem twS_1 : ∀ w ∈ (vx_at0 "TextKeeper" 189 "java/lang/IllegalStateException" ["java/lang/RuntimeException", "java/lang/Exception"]).filter goodWord, w ∈ w0 := by decide +kernel
theorem twS_2 : ∀ w ∈ (vx_at0 "TextKeeper" 189 "java/lang/IllegalStateException" ["java/lang/RuntimeException", "java/lang/Exception"]).filter (fun w => !goodWord w), w ∈ nw0 := by decide +kernel
theorem twS_g : ∀ w ∈ Cond.classLink "TextKeeper" 187 "java/lang/IllegalStateException" :: Cond.initialized "java/lang/IllegalStateException" :: vx_at0 "TextKeeper" 189 "java/lang/IllegalStateException" ["java/lang/RuntimeException", "java/lang/Exception"], vx_ot w = true := by decide +kernel
theorem twA_1 : ∀ w ∈ (vx_at0 "TextKeeper" 148 "java/lang/IllegalArgumentException" ["java/lang/RuntimeException", "java/lang/Exception"]).filter goodWord, w ∈ w0 := by decide +kernel
theorem twA_2 : ∀ w ∈ (vx_at0 "TextKeeper" 148 "java/lang/IllegalArgumentException" ["java/lang/RuntimeException", "java/lang/Exception"]).filter (fun w => !goodWord w), w ∈ nw0 := by decide +kernel
theorem twA_g : ∀ w ∈ Cond.classLink "TextKeeper" 146 "java/lang/IllegalArgumentException" :: Cond.initialized "java/lang/IllegalArgumentException" :: vx_at0 "TextKeeper" 148 "java/lang/IllegalArgumentException" ["java/lang/RuntimeException", "java/lang/Exception"], vx_ot w = true := by decide +kernel
theorem at_ns {D : va_G} {cl : List vw_C} {q : Nat × va_E} {H : Heap} {cell : Cell} (h : va_at D cl q H) (hc : H[q.1]? = some cell) : cell.vm.isStatics = false := by
  obtain ⟨a, e⟩ := q
  cases e with
  | inl x =>
    have h : H[a]? = some (vp_cell x.1 x.2) := h
    rw [h] at hc
    cases hc
    unfold vp_cell
    split <;> rfl
  | inr o =>
    obtain ⟨r, _, cell', h1, _, h3, _⟩ := h
    have hc : H[a]? = some cell := hc
    rw [h1] at hc
    cases hc
    rw [h3]
    rfl
theorem nA_of {D : va_G} {cl : List vw_C} {ws : va_W} {H : Heap} {a : Nat} {cell : Cell} (hP : va_P D cl ws H) (h5 : H[a]? = some cell) (h6 : cell.vm.isStatics = true) : ¬ va_A ws H.size a := by
  intro hA
  rcases hA with ⟨k, e, hk⟩ | hA
  · have := at_ns (hP k _ hk) h5
    rw [h6] at this
    cases this
  · have := (Array.getElem?_eq_some_iff.mp h5).1
    omega
theorem va_Z.wide {C n d : String} {v : Value} {D : va_G} {cl : List vw_C} {ws : va_W} {s : State} (h : va_Z C n d v (fun _ => False) s s.heap) (hP : va_P D cl ws s.heap) : va_Z C n d v (va_A ws s.heap.size) s s.heap := by
  obtain ⟨cf, kf, fi, f, a, cell, h1, h2, h3, h4, h5, h6, h7, _⟩ := h
  exact ⟨cf, kf, fi, f, a, cell, h1, h2, h3, h4, h5, h6, h7, nA_of hP h5 h6⟩
theorem vx_Zq.wide {C n d : String} {D : va_G} {cl : List vw_C} {ws : va_W} {s : State} (h : vx_Zq C n d (fun _ => False) s s.heap) (hP : va_P D cl ws s.heap) : vx_Zq C n d (va_A ws s.heap.size) s s.heap := by
  obtain ⟨h1, h2⟩ := h
  refine ⟨?_, ?_⟩
  · rcases h1 with h1 | ⟨t, h1⟩
    · exact Or.inl (h1.wide hP)
    · exact Or.inr ⟨t, h1.wide hP⟩
  · obtain ⟨c, k, i, f, a, cell, a1, a2, a3, a4, a5, a6, a7, a8, a9, _⟩ := h2
    exact ⟨c, k, i, f, a, cell, a1, a2, a3, a4, a5, a6, a7, a8, a9, nA_of hP a5 a6⟩
def twA (A : Nat → Prop) (s : State) (H : Heap) : Prop := vx_Zq Bundle.tN "UNASSIGNED_STACK" Bundle.steD A s H ∧ vx_Zq Bundle.tN "SUPPRESSED_SENTINEL" Bundle.listD A s H
theorem tw_A {D : va_G} {cl : List vw_C} {ws : va_W} {s : State} (h : tw_ok s) (hP : va_P D cl ws s.heap) : twA (va_A ws s.heap.size) s s.heap := ⟨h.1.wide hP, h.2.wide hP⟩
theorem twA.at {A : Nat → Prop} {s : State} {H : Heap} {locs : List Loc} (h : twA A s s.heap) (hS : va_S A s.heap H locs) : twA (fun _ => False) s H :=
  ⟨(h.1.kept (fun a ha hn => hS.2.1 a ha hn)).narrow (fun _ z => z.elim), (h.2.kept (fun a ha hn => hS.2.1 a ha hn)).narrow (fun _ z => z.elim)⟩
theorem twA.to {s U : State} {H : Heap} (h : twA (fun _ => False) s H) (hU : U.heap = H) (hW : s.vm.Alike U.vm) : tw_ok U := by
  subst hU
  exact ⟨vx_Zq.moved hW h.1, vx_Zq.moved hW h.2⟩
section PRX
variable {s : State} {H : Heap} {C : String} {b : Addr} {As : List Value} {D : va_G} {ws : va_W} {tys : List (ClassId × FieldType)}
theorem prV_X {A : Nat → Prop} (hP : va_P D vwCl ws H) (hK : va_K D vwCl tys s) (hD : va_D A ws) (hN : nw_ok s) (hTw : twA (fun _ => False) s H) (hrec : ∃ cell : Cell, H[b]? = some cell ∧ cell.vm.isStatics = false ∧ s.vm.findClass C = some cell.cls) : PreV s H C b (va_Pc (.ref b :: As) (fun U => pc_E D ws tys H.size U ∧ tw_ok U)) As :=
  ⟨fun a U g mk q => ⟨q.1, ⟨q.2.1.1, q.2.1.2.1, va_K.moved (u := U) (U := U.calling g mk a) (Vm.Alike.refl U.vm) q.2.1.2.2.1, q.2.1.2.2.2.1, nw_ok.same (s := U) (U := U.calling g mk a) rfl q.2.1.2.2.2.2⟩, tw_ok.move (s := U) (U := U.calling g mk a) (Vm.Alike.refl U.vm) (fun _ _ => rfl) q.2.2⟩, hrec, fun U hU hW => ⟨rfl, ⟨by rw [hU], by rw [hU]; exact hP, va_K.moved hW.alike hK, hD.weaken (fun _ _ _ _ => trivial), hN.warm hW⟩, hTw.to hU hW.alike⟩⟩
theorem prS_X {A : Nat → Prop} (hP : va_P D vwCl ws H) (hK : va_K D vwCl tys s) (hD : va_D A ws) (hN : nw_ok s) (hTw : twA (fun _ => False) s H) : PreS s H (va_Pc As (fun U => pc_E D ws tys H.size U ∧ tw_ok U)) As :=
  ⟨fun a U g mk q => ⟨q.1, ⟨q.2.1.1, q.2.1.2.1, va_K.moved (u := U) (U := U.calling g mk a) (Vm.Alike.refl U.vm) q.2.1.2.2.1, q.2.1.2.2.2.1, nw_ok.same (s := U) (U := U.calling g mk a) rfl q.2.1.2.2.2.2⟩, tw_ok.move (s := U) (U := U.calling g mk a) (Vm.Alike.refl U.vm) (fun _ _ => rfl) q.2.2⟩, fun U hU hW => ⟨rfl, ⟨by rw [hU], by rw [hU]; exact hP, va_K.moved hW.alike hK, hD.weaken (fun _ _ _ _ => trivial), hN.warm hW⟩, hTw.to hU hW.alike⟩⟩
end PRX
