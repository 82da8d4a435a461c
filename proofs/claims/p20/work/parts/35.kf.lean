theorem sub_z {α : Type} {S L : List α} (h : S.Sublist L) : ∃ z, L.Perm (S ++ z) := by
  induction h with
  | slnil => exact ⟨[], List.Perm.refl _⟩
  | cons a _ ih =>
    obtain ⟨z, hz⟩ := ih
    exact ⟨a :: z, (hz.cons a).trans List.perm_middle.symm⟩
  | cons_cons a _ ih =>
    obtain ⟨z, hz⟩ := ih
    exact ⟨z, hz.cons a⟩
theorem pick_map {α : Type} (l : List α) : (List.range l.length).map (fun i => l[i]?) = l.map some := by
  apply List.ext_getElem?
  intro i
  rcases Nat.lt_or_ge i l.length with h | h
  · simp [List.getElem?_map, List.getElem?_range h, List.getElem?_eq_getElem h]
  · simp [List.getElem?_map, List.getElem?_eq_none, h]
theorem pick {α : Type} {l l' : List α} (is : List Nat) (n : Nat) (hl : l.length = n) (hn : is.isPerm (List.range n) = true) (hs : is.map (fun i => l[i]?) = l'.map some) : l.Perm l' := by
  have h1 := (List.isPerm_iff.mp hn).map (fun i => l[i]?)
  rw [hs, ← hl, pick_map] at h1
  have h2 := h1.filterMap id
  simp at h2
  exact h2.symm
theorem va_P_iff {D : va_G} {cl : List vw_C} {ws : va_W} {H : Heap} : va_P D cl ws H ↔ ∀ q ∈ ws, va_at D cl q H := by
  constructor
  · intro h q hq
    obtain ⟨i, hi⟩ := List.getElem?_of_mem hq
    exact h i q hi
  · intro h k q hk
    exact h q (List.mem_of_getElem? hk)
theorem va_A_iff {ws : va_W} {sz q : Nat} : va_A ws sz q ↔ (∃ e, (q, e) ∈ ws) ∨ sz ≤ q := by
  constructor
  · intro h
    rcases h with ⟨k, e, hk⟩ | h
    · exact Or.inl ⟨e, List.mem_of_getElem? hk⟩
    · exact Or.inr h
  · intro h
    rcases h with ⟨e, he⟩ | h
    · obtain ⟨k, hk⟩ := List.getElem?_of_mem he
      exact Or.inl ⟨k, e, hk⟩
    · exact Or.inr h
theorem va_A_up {ws wr W : va_W} {sz q : Nat} (hp : W.Perm (ws ++ wr)) (h : va_A ws sz q) : va_A W sz q := by
  rw [va_A_iff] at h ⊢
  rcases h with ⟨e, he⟩ | h
  · exact Or.inl ⟨e, hp.mem_iff.mpr (List.mem_append_left _ he)⟩
  · exact Or.inr h
theorem fr_off {D : va_G} {ws wr : va_W} {H : Heap} (hP : va_P D vwCl (ws ++ wr) H) (hD : va_D (fun _ => True) (ws ++ wr)) {q : Nat × va_E} (hq : q ∈ wr) : ¬ va_A ws H.size q.1 := by
  rw [va_P_iff] at hP
  rw [va_D_iff] at hD
  intro h
  rw [va_A_iff] at h
  rcases h with ⟨e, he⟩ | h
  · exact (List.pairwise_append.mp hD.1).2.2 _ he _ hq rfl
  · have := (hP q (List.mem_append_right _ hq)).lt
    omega
theorem fr_in {D : va_G} {W ws wr : va_W} {tys tys' : List (ClassId × FieldType)} {sz : Nat} {U : State} (is : List Nat) (h : pc_E D W tys' sz U) (hp : W.Perm (ws ++ wr)) (ht : is.filterMap (fun i => tys'[i]?) = tys) : pc_E D ws tys sz U :=
  ⟨h.1, (h.2.1.perm hp).left, h.2.2.1.sub is ht, (h.2.2.2.1.perm hp).left, h.2.2.2.2⟩
theorem fr_wld {D : va_G} {W ws wr ws2 W2 : va_W} {H H1 : Heap} {A : Nat → Prop} (hA : ∀ q : Nat, H.size ≤ q → A q) (hP : va_P D vwCl W H) (hD : va_D A W) (hp : W.Perm (ws ++ wr)) (hF : ∀ q : Nat, q < H.size → ¬ va_A ws H.size q → H1[q]? = H[q]?) (hP1 : va_P D vwCl ws2 H1) (hD1 : va_D (va_A ws H.size) ws2) (hz : ∃ z, (ws2 ++ wr).Perm (W2 ++ z)) : va_P D vwCl W2 H1 ∧ va_D A W2 := by
  have hP := hP.perm hp
  have hD := hD.perm hp
  have hoff := fun {q : Nat × va_E} (hq : q ∈ wr) => fr_off hP (hD.weaken (fun _ _ _ _ => trivial)) hq
  obtain ⟨z, hz⟩ := hz
  have hP2 : va_P D vwCl (ws2 ++ wr) H1 := by
    rw [va_P_iff] at hP hP1 ⊢
    intro q hq
    rcases List.mem_append.mp hq with hq | hq
    · exact hP1 q hq
    · have h9 := hP q (List.mem_append_right _ hq)
      exact h9.kept (hF _ h9.lt (hoff hq))
  have hD2 : va_D A (ws2 ++ wr) := by
    rw [va_D_iff] at hD hD1 ⊢
    have hap := List.pairwise_append.mp hD.1
    refine ⟨List.pairwise_append.mpr ⟨hD1.1, hap.2.1, fun x hx y hy e => ?_⟩, fun q hq => ?_⟩
    · exact hoff hy (e ▸ hD1.2 x hx)
    · rcases List.mem_append.mp hq with hq | hq
      · have h9 := hD1.2 q hq
        rw [va_A_iff] at h9
        rcases h9 with ⟨e, he⟩ | h9
        · exact hD.2 (q.1, e) (List.mem_append_left _ he)
        · exact hA _ h9
      · exact hD.2 q (List.mem_append_right _ hq)
  exact ⟨(hP2.perm hz).left, (hD2.perm hz).left⟩
theorem fr_out {D : va_G} {W ws wr ws2 W2 : va_W} {tys tys' : List (ClassId × FieldType)} {sz : Nat} {U t : State} (h : pc_E D W tys' sz U) (hp : W.Perm (ws ++ wr)) (hvm : U.vm.Alike t.vm) (hF : va_F (va_A ws sz) U t) (hat : at_E D (va_A ws sz) ws2 tys t) (hz : ∃ z, (ws2 ++ wr).Perm (W2 ++ z)) : at_E D (va_A W sz) W2 tys' t := by
  obtain ⟨rfl, h1, h2, h3, -⟩ := h
  obtain ⟨p1, -, d1⟩ := hat
  obtain ⟨a, b⟩ := fr_wld (A := va_A W U.heap.size) (fun q hq => va_A_iff.mpr (Or.inr hq)) h1 (va_D_iff.mpr ⟨(va_D_iff.mp h3).1, fun q hq => va_A_iff.mpr (Or.inl ⟨q.2, hq⟩)⟩) hp hF.2 p1 d1 hz
  exact ⟨a, va_K.moved hvm h2, b⟩
theorem va_F.up {ws wr W : va_W} {sz : Nat} {st t : State} (hp : W.Perm (ws ++ wr)) (h : va_F (va_A ws sz) st t) : va_F (va_A W sz) st t := ⟨h.1, fun q hq hn => h.2 q hq (fun z => hn (va_A_up hp z))⟩
theorem k_room {s : State} {pl : Platform} {r q : Room} (h : s.hasRoom pl q = true) (hf : r.frames ≤ q.frames) (hl : r.locals ≤ q.locals) (hc : r.cells ≤ q.cells) (hs : r.slots ≤ q.slots) : s.hasRoom pl r = true := by
  unfold State.hasRoom at h ⊢
  simp only [Bool.and_eq_true, decide_eq_true_eq] at h ⊢
  obtain ⟨⟨⟨⟨h1, h2⟩, h3⟩, h4⟩, h5⟩ := h
  have h6 := h2.1
  have h7 := h2.2.1
  have h8 := h2.2.2.1
  have h9 := h2.2.2.2.1
  refine ⟨⟨⟨⟨?_, ?_, ?_, ?_, ?_, h2.2.2.2.2⟩, ?_⟩, ?_⟩, h5⟩
  all_goals omega
theorem k_spec {l : Launch} {x : MethodName} {ts : List Cond} {r q : Room} {P : Array Value → State → Prop} {K : Program → Env → List Frame → State → Array Value → Prop} {Q : Array Value → State → Outcome → State → Prop} (h : MetFree l x (headSpec ts r) P K Q) (hf : r.frames ≤ q.frames) (hl : r.locals ≤ q.locals) (hc : r.cells ≤ q.cells) (hs : r.slots ≤ q.slots) : MetFree l x (headSpec ts q) P K Q := by
  intro p e ha hcs hk s m args below hfr happ hP hK
  refine h p e ha hcs hk s m args below hfr ?_ hP hK
  obtain ⟨a1, a2, a3, a4, a5, a6, a7, a8⟩ := (Spec.appliesLoose_iff hfr).mp happ
  exact (Spec.appliesLoose_iff hfr).mpr ⟨a1, a2, a3, a4, a5, a6, k_room a7 hf hl hc hs, a8⟩
abbrev kRm : Room := { frames := 8, cells := 2, slots := 264, locals := 150 }
def kFr (D : va_G) (W ws wr : va_W) (tys' : List (ClassId × FieldType)) (sz : Nat) (t : State) : Prop := ∀ (ws2 W2 : va_W) (tys2 : List (ClassId × FieldType)), at_E D (va_A ws sz) ws2 tys2 t → (∃ z, (ws2 ++ wr).Perm (W2 ++ z)) → at_E D (va_A W sz) W2 tys' t
theorem kRet {l : Launch} {y : MethodName} {kk : List Cond} {fr ce sl lo mc ms sz : Nat} {D : va_G} {av : List Value} {W ws wr : va_W} {tys tys' : List (ClassId × FieldType)} {post : Int32 → Unit → Prop} {Bt : Unit → State → Prop} {QR : Int32 → Prop} {QB : State → Prop} {XC : String → State → State → Prop}
    (hM : Met l y kk ({ frames := fr, cells := ce, slots := sl, locals := lo } : Room) (va_Pc av (pc_E D ws tys sz)) (va_Qi post Bt (va_A ws sz)) mc ms (va_A ws sz)) (hr : fr ≤ 8 ∧ ce ≤ 2 ∧ sl ≤ 264 ∧ lo ≤ 150 ∧ mc ≤ 2 ∧ ms ≤ 264) (hp : W.Perm (ws ++ wr)) (is : List Nat) (ht : is.filterMap (fun i => tys'[i]?) = tys)
    (hpost : ∀ r, post r () → QR r) (hB : ∀ t, Bt () t → kFr D W ws wr tys' sz t → QB t) :
    vx_Met l y kk kRm (va_Pc av (fun U => pc_E D W tys' sz U ∧ tw_ok U)) (va_Qi (fun r (_ : Unit) => QR r) (fun _ t => QB t) (va_A W sz)) XC 2 264 (va_A W sz) := by
  have h1 := k_spec (q := kRm) hM hr.1 hr.2.2.2.1 hr.2.1 hr.2.2.1
  intro p e ha hcs hk s m args below hfr happ hP hK
  obtain ⟨hav, hpc, -⟩ := hP
  obtain ⟨n, o, g1, g2, g3, ⟨⟨r, u, ho, hpo, hb⟩, hF⟩, L, hfe, hL⟩ := h1 p e ha hcs hk s m args below hfr happ ⟨hav, fr_in is hpc hp ht⟩ trivial
  refine ⟨n, o, g1, g2, g3, Or.inl ⟨⟨⟨r, (), ho, hpost r hpo, hB _ hb (fun ws2 W2 tys2 hat hz => fr_out hpc hp hfe.2.1.alike hF hat hz)⟩, hF.up hp⟩, L, ⟨hfe.1, hfe.2.1, hfe.2.2.mono hr.2.2.2.2.1 hr.2.2.2.2.2⟩, fun q hq => va_A_up hp (hL q hq)⟩⟩
theorem kPur {l : Launch} {y : MethodName} {kk : List Cond} {fr ce sl lo sz : Nat} {D : va_G} {av : List Value} {W ws wr : va_W} {tys tys' : List (ClassId × FieldType)} {post : Int32 → Prop} {QR : Int32 → Prop} {QB : State → Prop} {XC : String → State → State → Prop}
    (hM : Met l y kk ({ frames := fr, cells := ce, slots := sl, locals := lo } : Room) (va_Pc av (pc_R D ws tys)) (vp_Si post) 0 0 (fun _ => False)) (hr : fr ≤ 8 ∧ ce ≤ 2 ∧ sl ≤ 264 ∧ lo ≤ 150) (hp : W.Perm (ws ++ wr)) (is : List Nat) (ht : is.filterMap (fun i => tys'[i]?) = tys)
    (hpost : ∀ r, post r → QR r) (hB : ∀ t, at_E D (va_A W sz) W tys' t → QB t) :
    vx_Met l y kk kRm (va_Pc av (fun U => pc_E D W tys' sz U ∧ tw_ok U)) (va_Qi (fun r (_ : Unit) => QR r) (fun _ t => QB t) (va_A W sz)) XC 2 264 (va_A W sz) := by
  have h1 := k_spec (q := kRm) hM hr.1 hr.2.2.2 hr.2.1 hr.2.2.1
  intro p e ha hcs hk s m args below hfr happ hP hK
  obtain ⟨hav, hpc, -⟩ := hP
  obtain ⟨n, o, g1, g2, g3, ⟨r, ho, hpo, hh⟩, L, hfe, hL⟩ := h1 p e ha hcs hk s m args below hfr happ ⟨hav, (hpc.2.1.perm hp).left, hpc.2.2.1.sub is ht, hpc.2.2.2.2⟩ trivial
  refine ⟨n, o, g1, g2, g3, Or.inl ⟨⟨⟨r, (), ho, hpost r hpo, hB _ ⟨by rw [hh]; exact hpc.2.1, va_K.moved hfe.2.1.alike hpc.2.2.1, va_D_iff.mpr ⟨(va_D_iff.mp hpc.2.2.2.1).1, fun q hq => va_A_iff.mpr (Or.inl ⟨q.2, hq⟩)⟩⟩⟩, ⟨by rw [hh]; exact Nat.le_refl _, fun q _ _ => by rw [hh]⟩⟩, L, ⟨hfe.1, hfe.2.1, hfe.2.2.mono (Nat.zero_le _) (Nat.zero_le _)⟩, fun q hq => (hL q hq).elim⟩⟩
theorem kThr {l : Launch} {y : MethodName} {kk : List Cond} {fr ce sl lo mc ms sz : Nat} {D : va_G} {av : List Value} {W ws wr : va_W} {tys tys' : List (ClassId × FieldType)} {A9 : Nat → Prop} {BX QX : String → State → Prop} {QR : Int32 → Prop} {QB : State → Prop}
    (hM : vx_Met l y kk ({ frames := fr, cells := ce, slots := sl, locals := lo } : Room) (va_Pc av (fun U => pc_E D ws tys sz U ∧ tw_ok U)) (va_Qi (fun (_ : Int32) (_ : Unit) => False) (fun _ _ => True) A9) (vx_X (fun _ : Unit => True) (fun E _ t => BX E t) (va_A ws sz)) mc ms (va_A ws sz)) (hr : fr ≤ 8 ∧ ce ≤ 2 ∧ sl ≤ 264 ∧ lo ≤ 150 ∧ mc ≤ 2 ∧ ms ≤ 264) (hp : W.Perm (ws ++ wr)) (is : List Nat) (ht : is.filterMap (fun i => tys'[i]?) = tys)
    (hB : ∀ E t, BX E t → kFr D W ws wr tys' sz t → QX E t) :
    vx_Met l y kk kRm (va_Pc av (fun U => pc_E D W tys' sz U ∧ tw_ok U)) (va_Qi (fun r (_ : Unit) => QR r) (fun _ t => QB t) (va_A W sz)) (vx_X (fun _ : Unit => True) (fun E _ t => QX E t) (va_A W sz)) 2 264 (va_A W sz) := by
  have h1 := k_spec (q := kRm) hM hr.1 hr.2.2.2.1 hr.2.1 hr.2.2.1
  intro p e ha hcs hk s m args below hfr happ hP hK
  obtain ⟨hav, hpc, htw⟩ := hP
  obtain ⟨n, o, g1, g2, g3, hq⟩ := h1 p e ha hcs hk s m args below hfr happ ⟨hav, fr_in is hpc hp ht, htw⟩ trivial
  refine ⟨n, o, g1, g2, g3, ?_⟩
  rcases hq with ⟨⟨⟨r, u, -, hf, -⟩, -⟩, -⟩ | ⟨q, ho, E, ce9, L, ⟨u, -, hb, hF⟩, q1, q2, q3, q4, q5, q6⟩
  · exact hf.elim
  · exact Or.inr ⟨q, ho, E, ce9, L, ⟨(), trivial, hB E _ hb (fun ws2 W2 tys2 hat hz => fr_out hpc hp q4.alike hF hat hz), hF.up hp⟩, q1, q2, q3, q4, q5.mono hr.2.2.2.2.1 hr.2.2.2.2.2, fun z hz => va_A_up hp (q6 z hz)⟩
theorem fr_free {W ws wr : va_W} {A : Nat → Prop} {H0 H : Heap} {locs : List Loc} (hD : va_D A W) (hS : va_S A H0 H locs) (hA : ∀ q : Nat, H0.size ≤ q → A q) (hp : W.Perm (ws ++ wr)) : ∀ q : Nat, va_A ws H.size q → A q := by
  intro q h
  rw [va_A_iff] at h
  rcases h with ⟨e, he⟩ | h
  · exact (va_D_iff.mp hD).2 (q, e) (hp.mem_iff.mpr (List.mem_append_left _ he))
  · exact hA q (Nat.le_trans hS.1 h)
