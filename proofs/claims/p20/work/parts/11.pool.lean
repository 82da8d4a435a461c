theorem va_P.perm {D : va_G} {cl : List vw_C} {ws ws' : va_W} {H : Heap} (h : va_P D cl ws H) (p : ws.Perm ws') : va_P D cl ws' H := fun k q hk => by
  obtain ⟨i, hi⟩ := List.getElem?_of_mem (p.mem_iff.mpr (List.mem_of_getElem? hk))
  exact h i q hi
theorem va_D_iff {A : Nat → Prop} {ws : va_W} : va_D A ws ↔ ws.Pairwise (fun p q => p.1 ≠ q.1) ∧ ∀ q ∈ ws, A q.1 := by
  constructor
  · intro h
    refine ⟨List.pairwise_iff_getElem.mpr (fun i j hi hj hij e => ?_), fun q hq => ?_⟩
    · have := h.1 i j _ _ (List.getElem?_eq_getElem hi) (List.getElem?_eq_getElem hj) e
      omega
    · obtain ⟨i, hi⟩ := List.getElem?_of_mem hq
      exact h.2 i q hi
  · intro h
    refine ⟨fun i j p q hp hq e => ?_, fun k q hk => h.2 q (List.mem_of_getElem? hk)⟩
    obtain ⟨hi, rfl⟩ := List.getElem?_eq_some_iff.mp hp
    obtain ⟨hj, rfl⟩ := List.getElem?_eq_some_iff.mp hq
    rcases Nat.lt_trichotomy i j with z | z | z
    · exact absurd e (List.pairwise_iff_getElem.mp h.1 i j hi hj z)
    · exact z
    · exact absurd e.symm (List.pairwise_iff_getElem.mp h.1 j i hj hi z)
theorem va_D.perm {A : Nat → Prop} {ws ws' : va_W} (h : va_D A ws) (p : ws.Perm ws') : va_D A ws' := by
  rw [va_D_iff] at h ⊢
  exact ⟨(p.pairwise_iff (fun h => Ne.symm h)).mp h.1, fun q hq => h.2 q (p.mem_iff.mpr hq)⟩
theorem pl_take {X pl Y pl' : va_W} (p : pl.Perm (Y ++ pl')) : (X ++ pl).Perm ((X ++ Y) ++ pl') := by
  rw [List.append_assoc]
  exact p.append_left X
theorem va_P.left {D : va_G} {cl : List vw_C} {X Y : va_W} {H : Heap} (h : va_P D cl (X ++ Y) H) : va_P D cl X H := fun k q hk => h k q (by rw [List.getElem?_append_left (List.getElem?_eq_some_iff.mp hk).1]; exact hk)
theorem va_D.left {A : Nat → Prop} {X Y : va_W} (h : va_D A (X ++ Y)) : va_D A X := by
  rw [va_D_iff] at h ⊢
  exact ⟨(List.pairwise_append.mp h.1).1, fun q hq => h.2 q (List.mem_append_left _ hq)⟩
theorem va_K.one {D : va_G} {cl : List vw_C} {tys : List (ClassId × FieldType)} {U : State} (h : va_K D cl tys U) {a b : ClassId} {ty : FieldType} (i j : Nat) (hi : tys[i]? = some (a, ty)) (hj : tys[j]? = some (b, ty)) : a = b := by
  have h1 := (h.2 i _ hi).2
  have h2 := (h.2 j _ hj).2
  cases ty with
  | object C =>
    obtain ⟨_, _, _, _, _, e1⟩ := h1
    obtain ⟨_, _, _, _, _, e2⟩ := h2
    exact Option.some.inj (e1.symm.trans e2)
  | _ => exact Option.some.inj (Eq.trans (Eq.symm h1) h2)
def fl {α : Type} (f : Nat → List α) : Nat → List α
  | 0 => []
  | n + 1 => fl f n ++ f n
theorem fl_congr {α : Type} {f g : Nat → List α} : ∀ {n : Nat}, (∀ j, j < n → f j = g j) → fl f n = fl g n
  | 0, _ => rfl
  | n + 1, h => by rw [fl, fl, fl_congr (fun j hj => h j (by omega)), h n (by omega)]
theorem fl_take {α : Type} {f g : Nat → List α} {i : Nat} (hg : ∀ j, j ≠ i → g j = f j) (h0 : g i = []) : ∀ {n : Nat}, i < n → (fl f n).Perm (f i ++ fl g n)
  | 0, h => absurd h (Nat.not_lt_zero i)
  | n + 1, h => by
    rcases Nat.lt_or_ge i n with z | z
    · have ih := fl_take hg h0 z
      rw [fl, fl, ← List.append_assoc, hg n (by omega)]
      exact ih.append_right (f n)
    · obtain rfl : i = n := by omega
      rw [fl, fl, h0, List.append_nil, fl_congr (g := f) (f := g) (fun j hj => hg j (by omega))]
      exact List.perm_append_comm
abbrev Rc : Type := (Nat) × (Nat) × (Nat) × (Nat → Int32) × (List Int32) × (Int32) × (Int32)
abbrev Rc.a (x : Rc) : Nat := x.1
abbrev Rc.pa (x : Rc) : Nat := x.2.1
abbrev Rc.np (x : Rc) : Nat := x.2.2.1
abbrev Rc.fp (x : Rc) : Nat → Int32 := x.2.2.2.1
abbrev Rc.S (x : Rc) : List Int32 := x.2.2.2.2.1
abbrev Rc.au (x : Rc) : Int32 := x.2.2.2.2.2.1
abbrev Rc.sm (x : Rc) : Int32 := x.2.2.2.2.2.2
abbrev rcW (cB : ClassId) (r : Rc) : va_W := [(r.a, .inr (6, [.ref r.pa, .int r.au, .int r.sm])), (r.pa, .inl (cB, r.np, .inl r.fp))]
def rvA (rv : Nat → Option Rc) : Nat → Option Nat := fun j => (rv j).map Rc.a
def rcO (cB : ClassId) : Option Rc → va_W
  | none => []
  | some r => rcW cB r
def rvW (cB : ClassId) (rv : Nat → Option Rc) : va_W := fl (fun j => rcO cB (rv j)) 64
def rvOk (rv : Nat → Option Rc) : Prop := ∀ j r, rv j = some r → tx r.S r.np r.fp ∧ r.np ≤ 1024
theorem rvW_take {cB : ClassId} {rv : Nat → Option Rc} {j : Nat} {r : Rc} (hj : j < 64) (h : rv j = some r) : (rvW cB rv).Perm (rcW cB r ++ rvW cB (va_up rv j none)) := by
  have := fl_take (f := fun j => rcO cB (rv j)) (g := fun k => rcO cB (va_up rv j none k)) (i := j) (fun k hk => by simp only [va_up_ne _ _ hk]) (by simp only [va_up_self]; rfl) hj
  simp only [h] at this
  exact this
theorem rvW_put {cB : ClassId} {rv : Nat → Option Rc} {j : Nat} {r : Rc} (hj : j < 64) : (rvW cB (va_up rv j (some r))).Perm (rcW cB r ++ rvW cB (va_up rv j none)) := by
  have := rvW_take (cB := cB) hj (va_up_self rv j (some r))
  have e : va_up (va_up rv j (some r)) j none = va_up rv j none := funext (fun k => by unfold va_up; split <;> rfl)
  rw [e] at this
  exact this
def plR (cB : ClassId) (rv : Nat → Option Rc) (pl : va_W) : Prop := ∀ j r, j < 64 → rv j = some r → ∃ pl', pl.Perm (rcW cB r ++ pl')
theorem plR_of {cB : ClassId} {rv : Nat → Option Rc} {pl : va_W} : plR cB rv (rvW cB rv ++ pl) := fun j r hj h =>
  ⟨rvW cB (va_up rv j none) ++ pl, by rw [← List.append_assoc]; exact (rvW_take hj h).append_right pl⟩
abbrev Dc : Type := (Nat) × (Nat) × (Nat) × (Nat) × (Nat → Option Rc)
abbrev Dc.a (x : Dc) : Nat := x.1
abbrev Dc.ra (x : Dc) : Nat := x.2.1
abbrev Dc.first (x : Dc) : Nat := x.2.2.1
abbrev Dc.count (x : Dc) : Nat := x.2.2.2.1
abbrev Dc.rv (x : Dc) : Nat → Option Rc := x.2.2.2.2
abbrev dcH (cR : ClassId) (d : Dc) : va_W := [(d.a, .inr (5, [.ref d.ra, .int (nI d.first), .int (nI d.count)])), (d.ra, .inl (cR, 64, .inr (.inr (.inr (.inr (rvA d.rv))))))]
def dcO (cB cR : ClassId) : Option Dc → va_W
  | none => []
  | some d => dcH cR d ++ rvW cB d.rv
def pW (cB cR : ClassId) (ds : Nat → Option Dc) : va_W := fl (fun i => dcO cB cR (ds i)) 8
def dsA (ds : Nat → Option Dc) : Nat → Option Nat := fun i => (ds i).map Dc.a
theorem pW_take {cB cR : ClassId} {ds : Nat → Option Dc} {i : Nat} {d : Dc} (hi : i < 8) (h : ds i = some d) : (pW cB cR ds).Perm (dcH cR d ++ (rvW cB d.rv ++ pW cB cR (va_up ds i none))) := by
  have := fl_take (f := fun j => dcO cB cR (ds j)) (g := fun k => dcO cB cR (va_up ds i none k)) (i := i) (fun k hk => by simp only [va_up_ne _ _ hk]) (by simp only [va_up_self]; rfl) hi
  simp only [h] at this
  rw [← List.append_assoc]
  exact this
theorem pW_put {cB cR : ClassId} {ds : Nat → Option Dc} {i : Nat} {d : Dc} (hi : i < 8) : (pW cB cR (va_up ds i (some d))).Perm (dcH cR d ++ (rvW cB d.rv ++ pW cB cR (va_up ds i none))) := by
  have := pW_take (cB := cB) (cR := cR) hi (va_up_self ds i (some d))
  have e : va_up (va_up ds i (some d)) i none = va_up ds i none := funext (fun k => by unfold va_up; split <;> rfl)
  rw [e] at this
  exact this
theorem pW_none {ds : Nat → Option Dc} {i : Nat} (h : ds i = none) : va_up ds i none = ds := funext (fun k => by unfold va_up; split <;> simp_all)
def hi6 (j r : Nat) : Nat := r / 2 ^ (6 - j) * 2 ^ (6 - j)
def bt6 (j : Nat) : Nat := 2 ^ (6 - j) / 2
theorem bt6_iff : ∀ r j, r < 64 → j < 6 → (nI r &&& nI (bt6 j) = 0 ↔ hi6 (j + 1) r = hi6 j r) ∧ (hi6 (j + 1) r = hi6 j r ∨ hi6 (j + 1) r = hi6 j r + bt6 j) ∧ hi6 j r ≤ r ∧ hi6 (j + 1) r ≤ r ∧ bt6 j / 2 = bt6 (j + 1) ∧ 0 < bt6 j ∧ bt6 j ≤ 32 := by
  have h : ∀ r : Fin 64, ∀ j : Fin 6, (nI r.1 &&& nI (bt6 j.1) = 0 ↔ hi6 (j.1 + 1) r.1 = hi6 j.1 r.1) ∧ (hi6 (j.1 + 1) r.1 = hi6 j.1 r.1 ∨ hi6 (j.1 + 1) r.1 = hi6 j.1 r.1 + bt6 j.1) ∧ hi6 j.1 r.1 ≤ r.1 ∧ hi6 (j.1 + 1) r.1 ≤ r.1 ∧ bt6 j.1 / 2 = bt6 (j.1 + 1) ∧ 0 < bt6 j.1 ∧ bt6 j.1 ≤ 32 := by decide +kernel
  intro r j hr hj
  exact h ⟨r, hr⟩ ⟨j, hj⟩
theorem hi6_0 {r : Nat} (h : r < 64) : hi6 0 r = 0 := by
  unfold hi6
  rw [Nat.div_eq_of_lt (by simpa using h)]
theorem hi6_6 (r : Nat) : hi6 6 r = r := by simp [hi6]
def stp6 (pc : Nat → Option (List Int32)) (T : Option (List Int32)) (k : Nat) : Option (List Int32) :=
  match T, pc k with
  | some T, some S => mak S T
  | _, _ => none
def agJ (pc : Nat → Option (List Int32)) (r : Nat) : Nat → Option (List Int32)
  | 0 => stp6 pc (some []) 0
  | j + 1 => if hi6 (j + 1) r = hi6 j r then agJ pc r j else stp6 pc (agJ pc r j) (hi6 (j + 1) r)
def agn (pc : Nat → Option (List Int32)) (r : Nat) : Option (List Int32) := agJ pc r 6
theorem agJ_same {pc : Nat → Option (List Int32)} {r j : Nat} (h : hi6 (j + 1) r = hi6 j r) : agJ pc r (j + 1) = agJ pc r j := by rw [agJ, if_pos h]
theorem agJ_step {pc : Nat → Option (List Int32)} {r j : Nat} (h : ¬ hi6 (j + 1) r = hi6 j r) : agJ pc r (j + 1) = stp6 pc (agJ pc r j) (hi6 (j + 1) r) := by rw [agJ, if_neg h]
theorem agJ_none {pc : Nat → Option (List Int32)} {r j : Nat} (h : agJ pc r j = none) : ∀ k, j ≤ k → agJ pc r k = none := by
  intro k hk
  induction k with
  | zero => obtain rfl : j = 0 := by omega
            exact h
  | succ k ih =>
    rcases Nat.lt_or_ge j (k + 1) with z | z
    · have := ih (by omega)
      rw [agJ]
      split
      · exact this
      · rw [this]; rfl
    · obtain rfl : j = k + 1 := by omega
      exact h
theorem stp6_n {pc : Nat → Option (List Int32)} {T : Option (List Int32)} {k : Nat} (h : pc k = none) : stp6 pc T k = none := by
  unfold stp6
  rw [h]
  cases T <;> rfl
theorem stp6_s {pc : Nat → Option (List Int32)} {T S : List Int32} {k : Nat} (h : pc k = some S) : stp6 pc (some T) k = mak S T := by
  unfold stp6
  rw [h]
def rvP (rv : Nat → Option Rc) : Nat → Option (List Int32) := fun j => (rv j).map Rc.S
def atN (n : Nat) (f : Nat → Option Nat) (x : Int32) : Option Nat := if x < 0 ∨ nI n ≤ x then none else f x.toNatClampNeg
theorem atN_nI {n k : Nat} {f : Nat → Option Nat} (hn : n < 2 ^ 31) (hk : k < n) : atN n f (nI k) = f k := by
  rw [atN, if_neg, nI_clamp (by omega)]
  intro q
  rcases q with q | q
  · exact nI_pos (by omega) q
  · exact nI_ge hk hn q
theorem atN_some {n a : Nat} {f : Nat → Option Nat} {x : Int32} (h : atN n f x = some a) : ∃ k, k < n ∧ x = nI k ∧ f k = some a := by
  unfold atN at h
  split at h
  · cases h
  · next q =>
    have h1 : ¬ x < 0 := fun z => q (Or.inl z)
    have h2 : ¬ nI n ≤ x := fun z => q (Or.inr z)
    obtain ⟨j, hj, rfl⟩ := nI_of h1
    rw [nI_clamp hj] at h
    refine ⟨j, ?_, rfl, h⟩
    rcases Nat.lt_or_ge j n with z | z
    · exact z
    · exact absurd (nI_le z hj) h2
