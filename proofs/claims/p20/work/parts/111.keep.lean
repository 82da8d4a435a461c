def nwI : Nat → Int32
  | 0 => -1
  | k + 1 => nI k
theorem nwI_s {k : Nat} (h : 0 < k) : nI k - 1 = nwI k := by
  obtain ⟨j, rfl⟩ : ∃ j, k = j + 1 := ⟨k - 1, by omega⟩
  rw [← nI_1 j]
  exact Int32.add_sub_cancel _ _
theorem nwI_dec (k : Nat) : nI k + (-1) = nwI k := by
  cases k with
  | zero => decide
  | succ j =>
    rw [← nI_1 j, Int32.add_assoc]
    exact Int32.add_zero _
theorem nwI_dec1 (k : Nat) : nI k - 1 = nwI (k - 0) := by
  rw [Int32.sub_eq_add_neg]
  exact nwI_dec k
theorem x_isN {go : Option Nat} (h : ¬ ¬ bI go.isSome = 0) : ¬ go.isSome = true := fun q => by
  rw [q] at h
  exact h (by decide)
theorem x_isN9 {go : Option Nat} (h : bI go.isSome = 0) : go = none := by
  cases go with
  | none => rfl
  | some w => exact absurd h (by show ¬ bI true = 0; decide)
theorem x_isS {go : Option Nat} (h : ¬ bI go.isSome = 0) : ∃ w, go = some w := by
  cases go with
  | none => exact absurd rfl h
  | some w => exact ⟨w, rfl⟩
def bs (k : Nat) : Nat := k &&& (k - 1)
def wkF : Nat → Nat → Nat → Nat
  | 0, k, _ => k
  | n + 1, k, r => if r < k then wkF n (bs k) r else k
def wk (k r : Nat) : Nat := wkF 7 k r
def wkI (f k : Nat) : Int32 := nI (wk f (k - 1))
theorem bs_nI : ∀ k, k < 64 → nI k &&& (nI k - 1) = nI (bs k) ∧ bs k ≤ k - 1 := by
  have h : ∀ k : Fin 64, nI k.1 &&& (nI k.1 - 1) = nI (bs k.1) ∧ bs k.1 ≤ k.1 - 1 := by decide +kernel
  intro k hk
  exact h ⟨k, hk⟩
theorem wk_start {f : Nat} (hf : f < 64) : nI f &&& (nI f - 1) = wkI f (f - 0) := by
  have h : ∀ k : Fin 64, nI k.1 &&& (nI k.1 - 1) = wkI k.1 (k.1 - 0) := by decide +kernel
  exact h ⟨f, hf⟩
theorem wk_eq {f k : Nat} (q : wk f k = k) : nI k = wkI f (k + 1) := by
  rw [wkI, Nat.add_sub_cancel, q]
theorem wk_eqv {f k : Nat} (hf : f < 64) (hk : k < f) (h : nI k = wkI f (k + 1)) : wk f k = k := by
  have h : ∀ f k : Fin 64, nI k.1 = wkI f.1 (k.1 + 1) → wk f.1 k.1 = k.1 := by decide +kernel
  exact h ⟨f, hf⟩ ⟨k, by omega⟩ (by assumption)
theorem wk_no {f k : Nat} (hf : f < 64) (hk : k < f) (q : ¬ wk f k = k) : wkI f (k + 1) = wkI f k := by
  have h : ∀ f k : Fin 64, ¬ wk f.1 k.1 = k.1 → wkI f.1 (k.1 + 1) = wkI f.1 k.1 := by decide +kernel
  exact h ⟨f, hf⟩ ⟨k, by omega⟩ q
theorem wk_yes {f k : Nat} (hf : f < 64) (hk : k < f) (q : nI k = wkI f (k + 1)) : wkI f (k + 1) &&& (wkI f (k + 1) - 1) = wkI f k := by
  have h : ∀ f k : Fin 64, nI k.1 = wkI f.1 (k.1 + 1) → wkI f.1 (k.1 + 1) &&& (wkI f.1 (k.1 + 1) - 1) = wkI f.1 k.1 := by decide +kernel
  exact h ⟨f, hf⟩ ⟨k, by omega⟩ q
def cutA {α : Type} (f : Nat) (g : Nat → Option α) (k : Nat) : Nat → Option α := fun j => if k ≤ j ∧ j < f ∧ ¬ wk f j = j then none else g j
theorem cut_start {α : Type} {f : Nat} (g : Nat → Option α) : cutA f g (f - 0) = g := by
  funext j
  rw [cutA, if_neg (by omega)]
theorem cut_no {α : Type} {f m k : Nat} {g : Nat → Option α} (hk : m = k + 1) (hf : k < f) (h : ¬ wk f k = k) : va_up (cutA f g m) k none = cutA f g k := by
  funext j
  unfold va_up cutA
  split
  · next e => subst e; rw [if_pos ⟨Nat.le_refl _, hf, h⟩]
  · next e =>
    by_cases q : m ≤ j ∧ j < f ∧ ¬ wk f j = j
    · rw [if_pos q, if_pos ⟨by omega, q.2⟩]
    · rw [if_neg q, if_neg (fun z => q ⟨by omega, z.2⟩)]
theorem cut_yes {α : Type} {f k : Nat} {g : Nat → Option α} (h : wk f k = k) : cutA f g (k + 1) = cutA f g k := by
  funext j
  unfold cutA
  by_cases e : j = k
  · subst e
    rw [if_neg (by omega), if_neg (fun z => z.2.2 h)]
  · by_cases q : k + 1 ≤ j ∧ j < f ∧ ¬ wk f j = j
    · rw [if_pos q, if_pos ⟨by omega, q.2⟩]
    · rw [if_neg q, if_neg (fun z => q ⟨by omega, z.2⟩)]
def blk (n : Nat) : Nat := (n + 31) / 32
theorem blk_le (n : Nat) : blk n ≤ n := by
  unfold blk
  omega
def blO : Option (List Int32) → Nat
  | none => 0
  | some S => blk S.length
def cbk (pc : Nat → Option (List Int32)) : Nat → Nat
  | 0 => 0
  | n + 1 => cbk pc n + blO (pc n)
theorem rvP_n {rv : Nat → Option Rc} {j : Nat} (h : rv j = none) : rvP rv j = none := by rw [rvP, h]; rfl
theorem rvP_s {rv : Nat → Option Rc} {j : Nat} {r : Rc} (h : rv j = some r) : rvP rv j = some r.S := by rw [rvP, h]; rfl
theorem rvA_n {rv : Nat → Option Rc} {j : Nat} (h : rv j = none) : rvA rv j = none := by rw [rvA, h]; rfl
theorem rvA_s {rv : Nat → Option Rc} {j : Nat} {r : Rc} (h : rv j = some r) : rvA rv j = some r.a := by rw [rvA, h]; rfl
theorem cbk_n {pc : Nat → Option (List Int32)} {j : Nat} (h : pc j = none) : cbk pc (j + 1) = cbk pc j := by rw [cbk, h]; rfl
theorem cbk_s {pc : Nat → Option (List Int32)} {j : Nat} {S : List Int32} (h : pc j = some S) : cbk pc (j + 1) = cbk pc j + blk S.length := by rw [cbk, h]; rfl
theorem nI_m1 {k : Nat} (h : k < 2 ^ 31) : ¬ nI k = (-1) := fun q => by
  have h1 := nI_pos h
  rw [q] at h1
  exact h1 (by decide)
theorem vI_none {go : Option Nat} (hg : ∀ w, go = some w → w < 2 ^ 31) (h : vI go = (-1)) : go = none := by
  cases go with
  | none => rfl
  | some w => exact absurd h (nI_m1 (hg w rfl))
theorem vI_some {go : Option Nat} (h : ¬ vI go = (-1)) : ∃ w, go = some w := by
  cases go with
  | none => exact absurd rfl h
  | some w => exact ⟨w, rfl⟩
theorem vI_nlt {go : Option Nat} {n : Nat} (hg : ∀ w, go = some w → w < 2 ^ 31) (hle : ∀ w, go = some w → n ≤ w) (h1 : ¬ vI go = (-1)) : ¬ vI go < nI n := by
  obtain ⟨w, rfl⟩ := vI_some h1
  exact Int32.not_lt.mpr (nI_le (hle w rfl) (hg w rfl))
def frb (ln : Nat → Option Nat) : Nat → Nat
  | 0 => 0
  | j + 1 => frb ln j + blk ((ln j).getD 0)
theorem fr_z (ln : Nat → Option Nat) : 512 - nI (frb ln 0) = 512 := by
  show (512 : Int32) - nI 0 = 512
  decide
theorem fr_some {fl : Nat → Int32} {ln : Nat → Option Nat} {j : Nat} {x : Int32} (hj : j < 512) (hfl : fl j = vI (ln j)) (e : x = fl (Int32.toNatClampNeg (nI j))) (c : ¬ x ≤ 0) : ∃ v, ln j = some v ∧ 0 < v := by
  rw [nI_clamp (by omega), hfl] at e
  cases h : ln j with
  | none => rw [h] at e; exact absurd (by rw [e]; decide) c
  | some v =>
    refine ⟨v, rfl, ?_⟩
    rw [h] at e
    rcases Nat.eq_zero_or_pos v with z | z
    · rw [z] at e; exact absurd (by rw [e]; decide) c
    · exact z
theorem fr_1 {ln : Nat → Option Nat} {j v : Nat} (h : ln j = some v) : 512 - nI (frb ln j) - nI (blk v) = 512 - nI (frb ln (j + 1)) := by
  rw [frb, h, Option.getD_some, ← nI_add, Int32.sub_sub]
theorem fr_0 {fl : Nat → Int32} {ln : Nat → Option Nat} {j : Nat} {x : Int32} (hj : j < 512) (hfl : fl j = vI (ln j)) (hb : ∀ v, ln j = some v → v ≤ 16384) (e : x = fl (Int32.toNatClampNeg (nI j))) (c : x ≤ 0) : 512 - nI (frb ln j) - 0 = 512 - nI (frb ln (j + 1)) := by
  rw [nI_clamp (by omega), hfl] at e
  rw [Int32.sub_zero, frb]
  cases h : ln j with
  | none => rfl
  | some v =>
    rw [h] at e
    have h1 := hb v h
    have h2 : v = 0 := by
      rcases Nat.eq_zero_or_pos v with z | z
      · exact z
      · exact absurd (by rw [← show x = nI v from e]; exact c) (nI_nle z (by omega))
    rw [h2]
    rfl
theorem wkU {k r : Nat} (h : r < k) (hk : k < 64) : wk k r = wk (bs k) r := by
  have h : ∀ k r : Fin 64, r.1 < k.1 → wk k.1 r.1 = wk (bs k.1) r.1 := by decide +kernel
  exact h ⟨k, hk⟩ ⟨r, by omega⟩ (by assumption)
theorem wk_le {k r : Nat} (h : k ≤ r) : wk k r = k := by
  rw [wk, wkF, if_neg (by omega)]
theorem wk_lt (k r : Nat) (hk : k < 64) : wk k r < 64 := by
  have h0 : ∀ n k, k < 64 → wkF n k r < 64 := by
    intro n
    induction n with
    | zero => intro k h; exact h
    | succ n ih =>
      intro k h
      rw [wkF]
      split
      · have := (bs_nI k h).2
        exact ih _ (by omega)
      · exact h
  exact h0 7 k hk
def basR (rv : Nat → Option Rc) (n : Nat) : Option (List Int32) := if n = 0 then some [] else agn (rvP rv) (bs n)
