theorem km {X X1 X2 P Y Z : va_W} (hx : X.Perm (X1 ++ X2)) (hp : P.Perm (Y ++ Z)) : (X ++ P).Perm ((X1 ++ Y) ++ (X2 ++ Z)) := by
  refine (hx.append hp).trans ?_
  rw [List.append_assoc, List.append_assoc]
  refine List.Perm.append_left X1 ?_
  rw [← List.append_assoc, ← List.append_assoc]
  exact List.perm_append_comm.append_right Z
theorem kmp {X X1 X2 P Y Z : va_W} (hx : X.Perm (X1 ++ X2)) (hp : P.Perm (Y ++ Z)) : (X ++ P).Perm (((X1 ++ Y) ++ Z) ++ X2) := by
  refine (km hx hp).trans ?_
  rw [List.append_assoc (X1 ++ Y) Z X2]
  exact List.perm_append_comm.append_left (X1 ++ Y)
theorem kz {A B : va_W} (h : B.Perm A) : ∃ z, A.Perm (B ++ z) := ⟨[], by rw [List.append_nil]; exact h.symm⟩
theorem kzl {A B C z : va_W} (h : C.Perm A) (h2 : C.Perm (B ++ z)) : ∃ z, A.Perm (B ++ z) := ⟨z, h.symm.trans h2⟩
def kR (z : Sg × Int32 × Int32) (r : Int32) : Prop := z.2.1 = 0 ∧ r = z.2.2
def kE (ex : Int32 → String) (z : Sg × Int32 × Int32) (E : String) : Prop := ¬ z.2.1 = 0 ∧ E = ex z.2.1
def kB (D : va_G) (h0 : Nat) (cB cD cR : ClassId) (σ : Sg) (A : Nat → Prop) (t : State) : Prop := ∃ (x2 : KX) (ds2 : Nat → Option Dc), kOk σ x2 ds2 ∧ at_E D A (kW h0 cB cD cR x2 ds2) (kT cB cD cR) t
def kMet (l : Launch) (y : MethodName) (kk : List Cond) (ex : Int32 → String) (D : va_G) (sz h0 : Nat) (cB cD cR : ClassId) (x : KX) (ds : Nat → Option Dc) (av : List Value) (z : Sg × Int32 × Int32) : Prop :=
  vx_Met l y kk kRm (va_Pc av (fun U => pc_E D (kW h0 cB cD cR x ds) (kT cB cD cR) sz U ∧ tw_ok U)) (va_Qi (fun r (_ : Unit) => kR z r) (fun _ t => kB D h0 cB cD cR z.1 (va_A (kW h0 cB cD cR x ds) sz) t) (va_A (kW h0 cB cD cR x ds) sz)) (vx_X (fun _ : Unit => True) (fun E _ t => kE ex z E ∧ kB D h0 cB cD cR z.1 (va_A (kW h0 cB cD cR x ds) sz) t) (va_A (kW h0 cB cD cR x ds) sz)) 2 264 (va_A (kW h0 cB cD cR x ds) sz)
def ex1 (_ : Int32) : String := "java/lang/IllegalStateException"
def ex3 (k : Int32) : String := if k = 1 then "java/util/NoSuchElementException" else if k = 2 then "java/lang/IllegalArgumentException" else "java/lang/IllegalStateException"
section KM
variable {l : Launch} {y : MethodName} {kk : List Cond} {ex : Int32 → String} {fr ce sl lo mc ms sz h0 : Nat} {D : va_G} {cB cD cR : ClassId} {x : KX} {ds : Nat → Option Dc} {av : List Value} {ws wr : va_W} {tys : List (ClassId × FieldType)} {σ : Sg}
theorem kPure {v : Int32} (hM : Met l y kk ({ frames := fr, cells := ce, slots := sl, locals := lo } : Room) (va_Pc av (pc_R D ws tys)) (vp_Si (fun r => r = v)) 0 0 (fun _ => False)) (hr : fr ≤ 8 ∧ ce ≤ 2 ∧ sl ≤ 264 ∧ lo ≤ 150) (hp : (kW h0 cB cD cR x ds).Perm (ws ++ wr)) (is : List Nat) (ht : is.filterMap (fun i => (kT cB cD cR)[i]?) = tys) (hk : kOk σ x ds) : kMet l y kk ex D sz h0 cB cD cR x ds av (σ, 0, v) :=
  kPur hM hr hp is ht (fun _ h => ⟨rfl, h⟩) (fun _ h => ⟨x, ds, hk, h⟩)
theorem kDown {v : Int32} {A9 : Nat → Prop} (hM : vx_Met l y kk ({ frames := fr, cells := ce, slots := sl, locals := lo } : Room) (va_Pc av (fun U => pc_E D ws tys sz U ∧ tw_ok U)) (va_Qi (fun (_ : Int32) (_ : Unit) => False) (fun _ _ => True) A9) (vx_X (fun _ : Unit => True) (fun E _ t => E = "java/lang/IllegalStateException" ∧ at_E D (va_A ws sz) ws tys t) (va_A ws sz)) mc ms (va_A ws sz)) (hr : fr ≤ 8 ∧ ce ≤ 2 ∧ sl ≤ 264 ∧ lo ≤ 150 ∧ mc ≤ 2 ∧ ms ≤ 264) (hp : (kW h0 cB cD cR x ds).Perm (ws ++ wr)) (is : List Nat) (ht : is.filterMap (fun i => (kT cB cD cR)[i]?) = tys) (hk : kOk σ x ds) (hv : ¬ v = 0) (he : ex v = "java/lang/IllegalStateException") : kMet l y kk ex D sz h0 cB cD cR x ds av (σ, v, 0) :=
  kThr hM hr hp is ht (fun E t h fr9 => ⟨⟨hv, h.1.trans he.symm⟩, x, ds, hk, fr9 _ _ _ h.2 (kz hp)⟩)
theorem kThrow {v : Int32} {e9 : String} {A9 : Nat → Prop} (hM : vx_Met l y kk ({ frames := fr, cells := ce, slots := sl, locals := lo } : Room) (va_Pc av (fun U => pc_E D ws tys sz U ∧ tw_ok U)) (va_Qi (fun (_ : Int32) (_ : Unit) => False) (fun _ _ => True) A9) (vx_X (fun _ : Unit => True) (fun E _ t => E = e9 ∧ at_E D (va_A ws sz) ws tys t) (va_A ws sz)) mc ms (va_A ws sz)) (hr : fr ≤ 8 ∧ ce ≤ 2 ∧ sl ≤ 264 ∧ lo ≤ 150 ∧ mc ≤ 2 ∧ ms ≤ 264) (hp : (kW h0 cB cD cR x ds).Perm (ws ++ wr)) (is : List Nat) (ht : is.filterMap (fun i => (kT cB cD cR)[i]?) = tys) (hk : kOk σ x ds) (hv : ¬ v = 0) (he : ex v = e9) : kMet l y kk ex D sz h0 cB cD cR x ds av (σ, v, 0) :=
  kThr hM hr hp is ht (fun E t h fr9 => ⟨⟨hv, h.1.trans he.symm⟩, x, ds, hk, fr9 _ _ _ h.2 (kz hp)⟩)
end KM
theorem kdocN {σ : Sg} {x : KX} {ds : Nat → Option Dc} {a1 : Int32} (hk : kOk σ x ds) (h : dGet σ.ds a1 = none) : atN 8 (dsA ds) a1 = none := by
  unfold atN
  split
  · rfl
  · next q =>
    rcases dGet_none h with z | z | z
    · exact absurd (Or.inl z) q
    · exact absurd (Or.inr z) q
    · rw [hk.ds] at z
      unfold dsM at z
      unfold dsA
      cases e : ds a1.toNatClampNeg with
      | none => rfl
      | some d => rw [e] at z; cases z
theorem kdocS {σ : Sg} {x : KX} {ds : Nat → Option Dc} {a1 : Int32} {i : Nat} {dm : Dm} (hs : sOk σ) (hk : kOk σ x ds) (h : dGet σ.ds a1 = some (i, dm)) : ∃ d : Dc, i < 8 ∧ a1 = nI i ∧ ds i = some d ∧ dm = dcM d ∧ atN 8 (dsA ds) (nI i) = some d.a ∧ d.count ≤ 64 ∧ rvOk d.rv ∧ (∀ j, d.first ≤ j → j < d.count → ∃ r, d.rv j = some r) ∧ dmOk (dcM d) := by
  obtain ⟨h1, h2, h3⟩ := dGet_some h
  have hok := (hs.ds i dm h3).2
  rw [hk.ds] at h3
  unfold dsM at h3
  cases e : ds i with
  | none => rw [e] at h3; cases h3
  | some d =>
    rw [e] at h3
    cases h3
    refine ⟨d, h1, h2, rfl, rfl, ?_, (hk.ok i d e).1, (hk.ok i d e).2, fun j => hk.kp i d j e, hok⟩
    rw [atN_nI (by decide) h1]
    exact dsA_s e
theorem kask {d : Dc} {a2 : Int32} (hf : d.first ≤ d.count) (hc : d.count ≤ 64) (h : ¬ (a2 < nI d.first ∨ nI d.count ≤ a2)) : ∃ r9, a2 = nI r9 ∧ d.first ≤ r9 ∧ r9 < d.count ∧ a2.toNatClampNeg = r9 := by
  have h1 : ¬ a2 < nI d.first := fun z => h (Or.inl z)
  have h2 : ¬ nI d.count ≤ a2 := fun z => h (Or.inr z)
  have h3 : ¬ a2 < 0 := fun z => h1 (Int32.lt_of_lt_of_le z (nI_pos' (by omega)))
  obtain ⟨j, hj, rfl⟩ := nI_of h3
  refine ⟨j, rfl, ?_, ?_, nI_clamp hj⟩
  · rcases Nat.lt_or_ge j d.first with q | q
    · exact absurd (nI_lt q (by omega)) h1
    · exact q
  · rcases Nat.lt_or_ge j d.count with q | q
    · exact q
    · exact absurd (nI_le q hj) h2
theorem krj {d : Dc} {a2 : Int32} (hc : d.count ≤ 64) (h : ¬ (a2 < 0 ∨ nI d.count ≤ a2)) : ∃ j, a2 = nI j ∧ j < d.count ∧ j < 64 ∧ a2.toNatClampNeg = j := by
  have h1 : ¬ a2 < 0 := fun z => h (Or.inl z)
  have h2 : ¬ nI d.count ≤ a2 := fun z => h (Or.inr z)
  obtain ⟨j, hj, rfl⟩ := nI_of h1
  have : j < d.count := by
    rcases Nat.lt_or_ge j d.count with q | q
    · exact q
    · exact absurd (nI_le q hj) h2
  exact ⟨j, rfl, this, by omega, nI_clamp hj⟩
theorem krN1 {d : Dc} {a2 : Int32} (h : a2 < 0 ∨ nI d.count ≤ a2) : atN d.count (rvA d.rv) a2 = none := if_pos h
theorem krN2 {d : Dc} {j : Nat} (hc : d.count ≤ 64) (hj : j < d.count) (e : d.rv j = none) : atN d.count (rvA d.rv) (nI j) = none := by
  rw [atN_nI (by omega) hj]
  exact rvA_n e
theorem krS {d : Dc} {j : Nat} {r : Rc} (hc : d.count ≤ 64) (hj : j < d.count) (e : d.rv j = some r) : atN d.count (rvA d.rv) (nI j) = some r.a := by
  rw [atN_nI (by omega) hj]
  exact rvA_s e
theorem krG0 {ds : Nat → Option Dm} {a1 a2 : Int32} {i : Nat} {d : Dc} (hd : dGet ds a1 = some (i, dcM d)) (h : a2 < 0 ∨ nI d.count ≤ a2) : rGet ds a1 a2 = none := by
  unfold rGet
  rw [hd]
  exact if_pos h
theorem krG1 {ds : Nat → Option Dm} {a1 a2 : Int32} {i j : Nat} {d : Dc} (hd : dGet ds a1 = some (i, dcM d)) (h : ¬ (a2 < 0 ∨ nI d.count ≤ a2)) (hj : a2.toNatClampNeg = j) (e : d.rv j = none) : rGet ds a1 a2 = none := by
  unfold rGet
  rw [hd]
  refine (if_neg h).trans ?_
  rw [hj]
  show ((d.rv j).map rcM).map _ = none
  rw [e]
  rfl
theorem krG2 {ds : Nat → Option Dm} {a1 a2 : Int32} {i j : Nat} {d : Dc} {r : Rc} (hd : dGet ds a1 = some (i, dcM d)) (h : ¬ (a2 < 0 ∨ nI d.count ≤ a2)) (hj : a2.toNatClampNeg = j) (e : d.rv j = some r) : rGet ds a1 a2 = some (i, dcM d, j, rcM r) := by
  unfold rGet
  rw [hd]
  refine (if_neg h).trans ?_
  rw [hj]
  show ((d.rv j).map rcM).map _ = _
  rw [e]
  rfl
theorem krGn {ds : Nat → Option Dm} {a1 a2 : Int32} (hd : dGet ds a1 = none) : rGet ds a1 a2 = none := by
  unfold rGet
  rw [hd]
theorem km0 {X X1 X2 P : va_W} (hx : X.Perm (X1 ++ X2)) : (X ++ P).Perm (X1 ++ (X2 ++ P)) := by
  rw [← List.append_assoc]
  exact hx.append_right P
theorem kmp0 {X X1 X2 P : va_W} (hx : X.Perm (X1 ++ X2)) : (X ++ P).Perm ((X1 ++ P) ++ X2) := by
  refine (km0 hx).trans ?_
  rw [List.append_assoc]
  exact List.perm_append_comm.append_left X1
theorem kdr {H R K R2 P : va_W} (h : R.Perm (K ++ R2)) : (H ++ (R ++ P)).Perm ((H ++ K) ++ (R2 ++ P)) := by
  rw [List.append_assoc]
  refine List.Perm.append_left H ?_
  rw [← List.append_assoc]
  exact h.append_right P
theorem kgo {go : Option Nat} {n : Nat} {wl2 : Int32} (h : ∀ w, go = some w → wl2 = nI (w - n)) : bI go.isSome = bI (go.map (· - n)).isSome ∧ ∀ w, go.map (· - n) = some w → wl2 = nI w := by
  cases go with
  | none => exact ⟨rfl, fun w h => by cases h⟩
  | some v => exact ⟨rfl, fun w e => by cases e; exact h v rfl⟩
theorem knd {σ : Sg} {x : KX} {ds : Nat → Option Dc} (hs : sOk σ) (hk : kOk σ x ds) : ds σ.nd = none := by
  cases e : ds σ.nd with
  | none => rfl
  | some d =>
    have h : σ.ds σ.nd = some (dcM d) := by
      rw [hk.ds]
      unfold dsM
      rw [e]
      rfl
    have := (hs.ds _ _ h).1
    omega
theorem kus {σ : Sg} {x : KX} {ds : Nat → Option Dc} (hk : kOk σ x ds) : usd σ.ds 8 = cfr ds 8 := by
  rw [hk.ds]
  exact usd_M ds 8
theorem kle {k : Nat} {a : Int32} (hk : k ≤ 256) (h : ¬ (a < 0 ∨ nI k < a)) : ∃ n9, a = nI n9 ∧ n9 ≤ k ∧ a.toNatClampNeg = n9 := by
  have h1 : ¬ a < 0 := fun z => h (Or.inl z)
  have h2 : ¬ nI k < a := fun z => h (Or.inr z)
  obtain ⟨j, hj, rfl⟩ := nI_of h1
  refine ⟨j, rfl, ?_, nI_clamp hj⟩
  rcases Nat.lt_or_ge k j with q | q
  · exact absurd (nI_lt q hj) h2
  · exact q
theorem kix {n : Nat} {a : Int32} (hn : n ≤ 1024) (h : ¬ (a < 0 ∨ nI n ≤ a)) : ∃ j, a = nI j ∧ j < n ∧ a.toNatClampNeg = j := by
  have h1 : ¬ a < 0 := fun z => h (Or.inl z)
  have h2 : ¬ nI n ≤ a := fun z => h (Or.inr z)
  obtain ⟨j, hj, rfl⟩ := nI_of h1
  refine ⟨j, rfl, ?_, nI_clamp hj⟩
  rcases Nat.lt_or_ge j n with q | q
  · exact q
  · exact absurd (nI_le q hj) h2
theorem kok_up {ds : Nat → Option Dc} {i : Nat} {d2 : Dc} (h : dsOk ds) (h2 : d2.count ≤ 64 ∧ rvOk d2.rv) : dsOk (va_up ds i (some d2)) := by
  intro k d e
  by_cases q : k = i
  · subst q
    rw [va_up_self] at e
    cases e
    exact h2
  · rw [va_up_ne _ _ q] at e
    exact h k d e
theorem kok_dn {ds : Nat → Option Dc} {i : Nat} (h : dsOk ds) : dsOk (va_up ds i none) := by
  intro k d e
  by_cases q : k = i
  · subst q
    rw [va_up_self] at e
    cases e
  · rw [va_up_ne _ _ q] at e
    exact h k d e
def kpt (ds : Nat → Option Dc) : Prop := ∀ i d j, ds i = some d → d.first ≤ j → j < d.count → ∃ r, d.rv j = some r
theorem kpt_up {ds : Nat → Option Dc} {i : Nat} {d2 : Dc} (h : kpt ds) (h2 : ∀ j, d2.first ≤ j → j < d2.count → ∃ r, d2.rv j = some r) : kpt (va_up ds i (some d2)) := by
  intro k d j e
  by_cases q : k = i
  · subst q
    rw [va_up_self] at e
    cases e
    exact h2 j
  · rw [va_up_ne _ _ q] at e
    exact h k d j e
theorem kpt_dn {ds : Nat → Option Dc} {i : Nat} (h : kpt ds) : kpt (va_up ds i none) := by
  intro k d j e
  by_cases q : k = i
  · subst q
    rw [va_up_self] at e
    cases e
  · rw [va_up_ne _ _ q] at e
    exact h k d j e
theorem kone {D : va_G} {a b : ClassId} {c1 c2 c3 : ClassId} {t1 t2 t3 t : FieldType} {U : State} (h : va_K D vwCl [(c1, t1), (a, t)] U) (h2 : va_K D vwCl [(c2, t2), (c3, t3), (b, t)] U) : a = b := by
  have h3 : va_K D vwCl [(a, t), (b, t)] U := by
    refine ⟨h.1, fun k q hk => ?_⟩
    match k, hk with
    | 0, hk => cases hk; exact h.2 1 _ rfl
    | 1, hk => cases hk; exact h2.2 2 _ rfl
    | k + 2, hk => simp at hk
  exact h3.one 0 1 rfl rfl
theorem kadd {cB cR : ClassId} {ds : Nat → Option Dc} {i a ra : Nat} (hi : i < 8) (hn : ds i = none) : (pW cB cR (va_up ds i (some (a, ra, 0, 0, fun _ => none)))).Perm ([(a, .inr (5, [.ref ra, .int 0, .int 0])), (ra, .inl (cR, 64, .inr (.inr (.inr (.inr (fun _ => none))))))] ++ pW cB cR ds) := by
  have h := pW_add (cB := cB) (cR := cR) (d := (a, ra, 0, 0, fun _ => none)) hi hn
  have e : rvW cB (Dc.rv (a, ra, 0, 0, fun _ => none)) = [] := rvW_nil cB
  rw [e, List.nil_append] at h
  exact h
theorem dsA_keep {ds : Nat → Option Dc} {i : Nat} {d d2 : Dc} (h : ds i = some d) (e : d2.a = d.a) : dsA (va_up ds i (some d2)) = dsA ds := by
  funext k
  unfold dsA va_up
  split
  · next q => subst q; rw [h]; exact congrArg some e
  · rfl
theorem rvA_keep {rv : Nat → Option Rc} {j : Nat} {r r2 : Rc} (h : rv j = some r) (e : r2.a = r.a) : rvA (va_up rv j (some r2)) = rvA rv := by
  funext k
  unfold rvA va_up
  split
  · next q => subst q; rw [h]; exact congrArg some e
  · rfl
theorem rvOk_cut {rv : Nat → Option Rc} {f k : Nat} (h : rvOk rv) : rvOk (cutA f rv k) := by
  intro j r e
  unfold cutA at e
  split at e
  · cases e
  · exact h j r e
theorem kpt_cut {rv : Nat → Option Rc} {f n r9 : Nat} (ha : f ≤ r9) (h : ∀ j, f ≤ j → j < n → ∃ r, rv j = some r) : ∀ j, r9 ≤ j → j < n → ∃ r, cutA r9 rv 0 j = some r := by
  intro j h1 h2
  unfold cutA
  rw [if_neg (by omega)]
  exact h j (by omega) h2
theorem rvOk_up {rv : Nat → Option Rc} {j : Nat} {r : Rc} (h : rvOk rv) (h2 : tx r.S r.np r.fp ∧ r.np ≤ 1024) : rvOk (va_up rv j (some r)) := by
  intro k r2 e
  by_cases q : k = j
  · subst q
    rw [va_up_self] at e
    cases e
    exact h2
  · rw [va_up_ne _ _ q] at e
    exact h k r2 e
theorem kpt_upr {rv : Nat → Option Rc} {f n j : Nat} {r2 : Rc} (h : ∀ j, f ≤ j → j < n → ∃ r, rv j = some r) : ∀ t, f ≤ t → t < n → ∃ r, va_up rv j (some r2) t = some r := by
  intro t h1 h2
  by_cases q : t = j
  · subst q
    exact ⟨r2, va_up_self _ _ _⟩
  · rw [va_up_ne _ _ q]
    exact h t h1 h2
theorem kpt_add {rv : Nat → Option Rc} {f n : Nat} {r2 : Rc} (h : ∀ j, f ≤ j → j < n → ∃ r, rv j = some r) : ∀ t, f ≤ t → t < n + 1 → ∃ r, va_up rv n (some r2) t = some r := by
  intro t h1 h2
  by_cases q : t = n
  · subst q
    exact ⟨r2, va_up_self _ _ _⟩
  · rw [va_up_ne _ _ q]
    exact h t h1 (by omega)
theorem tx_set {S : List Int32} {n j : Nat} {f : Nat → Int32} {b : Int32} (h : tx S n f) (hj : j < n) : tx (S.set j (nbb (S.getD j 0 ^^^ b))) n (upd f j (nbb (f j ^^^ b))) := by
  obtain ⟨h1, h2, h3⟩ := h
  refine ⟨by rw [List.length_set]; exact h1, fun t ht => ?_, fun c hc => ?_⟩
  · by_cases q : t = j
    · subst q
      rw [pk_us, h2 t ht]
      simp [List.getD, List.getElem?_set, h1, ht]
    · rw [pk_un q, h2 t ht]
      simp only [List.getD, List.getElem?_set, if_neg (fun e => q (Eq.symm e) : ¬ j = t)]
  · rcases List.mem_or_eq_of_mem_set hc with hc | rfl
    · exact h3 c hc
    · exact nbb_B _
theorem kno {d : Dc} (h : dmOk (dcM d)) : d.rv d.count = none := by
  cases e : d.rv d.count with
  | none => rfl
  | some r =>
    have h9 : (dcM d).rv d.count = some (rcM r) := by
      show (d.rv d.count).map rcM = _
      rw [e]
      rfl
    have h8 : d.count < d.count := (h.2.2.2 _ _ h9).1
    omega
theorem kpd {cB cR : ClassId} {ds : Nat → Option Dc} {i : Nat} {d : Dc} (hi : i < 8) (h : ds i = some d) : plD cB cR ds (dcH cR d ++ (rvW cB d.rv ++ pW cB cR (va_up ds i none))) := by
  intro k e hk he
  obtain ⟨pl, h1, h2⟩ := plD_of (cB := cB) (cR := cR) k e hk he
  exact ⟨pl, (pW_take hi h).symm.trans h1, h2⟩
theorem kzc {cB cR : ClassId} {ds : Nat → Option Dc} {i : Nat} {d d2 : Dc} {W2 X2 ws2 : va_W} (hi : i < 8) (hc : (rvW cB d2.rv).Sublist (rvW cB d.rv)) (h : ∀ P, (pW cB cR (va_up ds i (some d2))).Perm (dcH cR d2 ++ P) → W2.Perm (ws2 ++ (X2 ++ P))) : ∃ z, (ws2 ++ (X2 ++ (rvW cB d.rv ++ pW cB cR (va_up ds i none)))).Perm (W2 ++ z) := by
  obtain ⟨z, hz⟩ := sub_z hc
  have h1 := h _ (pW_put hi)
  refine ⟨z, ?_⟩
  refine List.Perm.trans ?_ (h1.symm.append_right z)
  rw [List.append_assoc, List.append_assoc]
  refine List.Perm.append_left ws2 (List.Perm.append_left X2 ?_)
  refine (hz.append_right _).trans ?_
  rw [List.append_assoc, List.append_assoc]
  exact List.perm_append_comm.append_left _
theorem kzd {cB cR : ClassId} {ds : Nat → Option Dc} {i : Nat} {d : Dc} {W2 X X2 ws2 : va_W} (hi : i < 8) (hd : ds i = some d) (h : ∀ P, (X ++ P).Perm (ws2 ++ (X2 ++ P))) (hW : W2 = X ++ pW cB cR (va_up ds i none)) : ∃ z, (ws2 ++ (X2 ++ pW cB cR ds)).Perm (W2 ++ z) := by
  subst hW
  refine ⟨dcH cR d ++ rvW cB d.rv, ?_⟩
  refine (h _).symm.trans ?_
  rw [List.append_assoc]
  refine List.Perm.append_left X ?_
  refine (pW_take hi hd).trans ?_
  rw [← List.append_assoc]
  exact List.perm_append_comm
theorem kcm {cB cR : ClassId} {ds : Nat → Option Dc} {i a ra f n : Nat} {rv : Nat → Option Rc} {r : Rc} (hi : i < 8) (hn : n < 64) (h : rv n = none) : (pW cB cR (va_up ds i (some (a, ra, f, n + 1, va_up rv n (some r))))).Perm ((dcH cR (a, ra, f, n + 1, va_up rv n (some r)) ++ rcW cB r) ++ (rvW cB rv ++ pW cB cR (va_up ds i none))) :=
  (pW_put hi).trans (kdr (rvW_add hn h))
theorem kds {sd : Nat → Option Dm} {ds : Nat → Option Dc} {i : Nat} {d2 : Dc} {dm2 : Dm} (h : sd = dsM ds) (e : dcM d2 = dm2) : va_up sd i (some dm2) = dsM (va_up ds i (some d2)) := by
  rw [dsM_up, h, ← e]
  rfl
theorem dcM_cut (d : Dc) (r9 : Nat) : dcM (d.a, d.ra, r9, d.count, cutA r9 d.rv 0) = (r9, d.count, cutA r9 (dcM d).rv 0) := congrArg (fun z : Nat → Option Rv => ((r9, d.count, z) : Dm)) (rvM_cut d.rv r9 0)
theorem dcM_up (d : Dc) (n j : Nat) (r : Rc) : dcM (d.a, d.ra, d.first, n, va_up d.rv j (some r)) = (d.first, n, va_up (dcM d).rv j (some (rcM r))) := congrArg (fun z : Nat → Option Rv => ((d.first, n, z) : Dm)) (rvM_up d.rv j (some r))
theorem kdm {cB cR : ClassId} {ds : Nat → Option Dc} {i j : Nat} {d : Dc} {r r2 : Rc} (hi : i < 8) (hj : j < 64) (hr : d.rv j = some r) (e : r2.a = r.a) : (pW cB cR (va_up ds i (some (d.a, d.ra, d.first, d.count, va_up d.rv j (some r2))))).Perm ((dcH cR d ++ rcW cB r2) ++ (rvW cB (va_up d.rv j none) ++ pW cB cR (va_up ds i none))) := by
  have h := (pW_put (cB := cB) (cR := cR) (ds := ds) (d := (d.a, d.ra, d.first, d.count, va_up d.rv j (some r2))) hi).trans (kdr (rvW_put hj))
  have e1 : rvA (va_up d.rv j (some r2)) = rvA d.rv := rvA_keep hr e
  have e2 : dcH cR (d.a, d.ra, d.first, d.count, va_up d.rv j (some r2)) = dcH cR d := by
    show ([(d.a, .inr (5, [.ref d.ra, .int (nI d.first), .int (nI d.count)])), (d.ra, .inl (cR, 64, .inr (.inr (.inr (.inr (rvA (va_up d.rv j (some r2))))))))] : va_W) = _
    rw [e1]
  rw [e2] at h
  exact h
def sRev (σ : Sg) (a1 a2 a3 : Int32) : Sg × Int32 × Int32 :=
  if σ.down then (σ, 3, 0) else
  match rGet σ.ds a1 a2 with
  | none => (σ, 1, 0)
  | some (_, d, _, r) => if (a2 < nI d.first ∨ nI d.count ≤ a2) ∧ ¬ a3 = 0 ∧ ¬ a3 = 2 then (σ, 1, 0) else if a3 = 0 then (σ, 0, nI r.S.length) else if a3 = 1 then (σ, 0, r.au) else if a3 = 2 then (σ, 0, r.sm) else (σ, 2, 0)
theorem kna0 {d : Dc} {a2 : Int32} (hf : d.first ≤ d.count) (hc : d.count ≤ 64) (q : a2 < 0 ∨ nI d.count ≤ a2) : a2 < nI d.first ∨ nI d.count ≤ a2 := by
  rcases q with q | q
  · exact Or.inl (Int32.lt_of_lt_of_le q (nI_pos' (by omega)))
  · exact Or.inr q
theorem kna1 {d : Dc} {j : Nat} (hf : d.first ≤ d.count) (hc : d.count ≤ 64) (hj : j < d.count) (hr : d.rv j = none) (hkp : ∀ j, d.first ≤ j → j < d.count → ∃ r, d.rv j = some r) : nI j < nI d.first ∨ nI d.count ≤ nI j := by
  rcases Nat.lt_or_ge j d.first with q | q
  · exact Or.inl (nI_lt q (by omega))
  · obtain ⟨r, e⟩ := hkp j q hj
    rw [e] at hr
    cases hr
theorem kMet.out {l : Launch} {y : MethodName} {kk : List Cond} {ex : Int32 → String} {D : va_G} {sz h0 : Nat} {cB cD cR : ClassId} {x : KX} {ds : Nat → Option Dc} {av : List Value} {z : Sg × Int32 × Int32} (h : kMet l y kk ex D sz h0 cB cD cR x ds av z) : vx_Met l y kk kRm (va_Pc av (fun U => pc_E D (kW h0 cB cD cR x ds) (kT cB cD cR) sz U ∧ tw_ok U)) (va_Qi (fun r (_ : Unit) => kR z r) (fun _ t => kB D h0 cB cD cR z.1 (va_A (kW h0 cB cD cR x ds) sz) t) (va_A (kW h0 cB cD cR x ds) sz)) (vx_X (fun _ : Unit => True) (fun E _ t => kE ex z E ∧ kB D h0 cB cD cR z.1 (va_A (kW h0 cB cD cR x ds) sz) t) (va_A (kW h0 cB cD cR x ds) sz)) 2 264 (va_A (kW h0 cB cD cR x ds) sz) := h
theorem cd_feed {σ : Sg} {a b c d e : Int32} : (sFeed σ a b c d e).2.1 = 0 ∨ (sFeed σ a b c d e).2.1 = 1 := by
  unfold sFeed
  repeat' split
  all_goals first | exact Or.inl rfl | exact Or.inr rfl
theorem cd_end {σ : Sg} {a : Int32} : (sEnd σ a).2.1 = 0 ∨ (sEnd σ a).2.1 = 1 := by
  unfold sEnd
  repeat' split
  all_goals first | exact Or.inl rfl | exact Or.inr rfl
theorem cd_make {σ : Sg} : (sMake σ).2.1 = 0 ∨ (sMake σ).2.1 = 1 := by
  unfold sMake
  repeat' split
  all_goals first | exact Or.inl rfl | exact Or.inr rfl
theorem cd_commit {σ : Sg} {a b : Int32} : (sCommit σ a b).2.1 = 0 ∨ (sCommit σ a b).2.1 = 1 := by
  unfold sCommit
  repeat' split
  all_goals first | exact Or.inl rfl | exact Or.inr rfl
theorem cd_fetch {σ : Sg} {a b : Int32} : (sFetch σ a b).2.1 = 0 ∨ (sFetch σ a b).2.1 = 1 := by
  unfold sFetch
  repeat' split
  all_goals first | exact Or.inl rfl | exact Or.inr rfl
theorem cd_out {σ : Sg} {a : Int32} : (sOut σ a).2.1 = 0 ∨ (sOut σ a).2.1 = 1 := by
  unfold sOut
  repeat' split
  all_goals first | exact Or.inl rfl | exact Or.inr rfl
theorem cd_steps {σ : Sg} : (sSteps σ).2.1 = 0 ∨ (sSteps σ).2.1 = 1 := by
  unfold sSteps
  repeat' split
  all_goals first | exact Or.inl rfl | exact Or.inr rfl
theorem cd_trim {σ : Sg} {a b : Int32} : (sTrim σ a b).2.1 = 0 ∨ (sTrim σ a b).2.1 = 1 := by
  unfold sTrim
  repeat' split
  all_goals first | exact Or.inl rfl | exact Or.inr rfl
theorem cd_dropDocument {σ : Sg} {a : Int32} : (sDrop σ a).2.1 = 0 ∨ (sDrop σ a).2.1 = 1 := by
  unfold sDrop
  repeat' split
  all_goals first | exact Or.inl rfl | exact Or.inr rfl
theorem cd_about {σ : Sg} {a b : Int32} : (sAbout σ a b).2.1 = 0 ∨ (sAbout σ a b).2.1 = 1 ∨ (sAbout σ a b).2.1 = 2 ∨ (sAbout σ a b).2.1 = 3 := by
  unfold sAbout
  repeat' split
  all_goals first | exact Or.inl rfl | exact Or.inr (Or.inl rfl) | exact Or.inr (Or.inr (Or.inl rfl)) | exact Or.inr (Or.inr (Or.inr rfl))
theorem cd_revision {σ : Sg} {a b d : Int32} : (sRev σ a b d).2.1 = 0 ∨ (sRev σ a b d).2.1 = 1 ∨ (sRev σ a b d).2.1 = 2 ∨ (sRev σ a b d).2.1 = 3 := by
  unfold sRev
  repeat' split
  all_goals first | exact Or.inl rfl | exact Or.inr (Or.inl rfl) | exact Or.inr (Or.inr (Or.inl rfl)) | exact Or.inr (Or.inr (Or.inr rfl))
theorem cd_pieceByte {σ : Sg} {a b d : Int32} : (sByte σ a b d).2.1 = 0 ∨ (sByte σ a b d).2.1 = 1 := by
  unfold sByte
  repeat' split
  all_goals first | exact Or.inl rfl | exact Or.inr rfl
theorem cd_damage {σ : Sg} {a b d e : Int32} : (sDamage σ a b d e).2.1 = 0 ∨ (sDamage σ a b d e).2.1 = 1 := by
  unfold sDamage
  repeat' split
  all_goals first | exact Or.inl rfl | exact Or.inr rfl
theorem cd_verify {σ : Sg} {a : Int32} : (sVerify σ a).2.1 = 0 ∨ (sVerify σ a).2.1 = 1 := by
  unfold sVerify
  repeat' split
  all_goals first | exact Or.inl rfl | exact Or.inr rfl
theorem cd_common {σ : Sg} {a b d e : Int32} : (sCommon σ a b d e).2.1 = 0 ∨ (sCommon σ a b d e).2.1 = 1 := by
  unfold sCommon
  repeat' split
  all_goals first | exact Or.inl rfl | exact Or.inr rfl
theorem cd_freeBlocks {σ : Sg} : (sFree σ).2.1 = 0 ∨ (sFree σ).2.1 = 1 := by
  unfold sFree
  repeat' split
  all_goals first | exact Or.inl rfl | exact Or.inr rfl
theorem cd_cutAfter {σ : Sg} {a : Int32} : (sCut σ a).2.1 = 0 ∨ (sCut σ a).2.1 = 1 := by
  unfold sCut
  repeat' split
  all_goals first | exact Or.inl rfl | exact Or.inr rfl
