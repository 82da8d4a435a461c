def bgs (ln : Nat → Option Nat) : Nat → Nat
  | 0 => 0
  | j + 1 => bgs ln j + (ln j).getD 0
theorem y_bg1 {fl : Nat → Int32} {ln : Nat → Option Nat} {j : Nat} {x : Int32} (hj : j < 512) (hfl : fl j = vI (ln j)) (e : x = fl (Int32.toNatClampNeg (nI j))) (c : ¬ x ≤ 0) : nI (bgs ln j) + fl (Int32.toNatClampNeg (nI j)) = nI (bgs ln (j + 1)) := by
  rw [nI_clamp (by omega)] at e ⊢
  rw [hfl] at e ⊢
  rw [bgs]
  cases h : ln j with
  | none => rw [h] at e; exact absurd (by rw [e]; decide) c
  | some v => exact nI_add _ _
theorem y_bg0 {fl : Nat → Int32} {ln : Nat → Option Nat} {j : Nat} {x : Int32} (hj : j < 512) (hfl : fl j = vI (ln j)) (hb : ∀ v, ln j = some v → v ≤ 16384) (e : x = fl (Int32.toNatClampNeg (nI j))) (c : x ≤ 0) : nI (bgs ln j) + 0 = nI (bgs ln (j + 1)) := by
  rw [nI_clamp (by omega), hfl] at e
  rw [Int32.add_zero, bgs]
  cases h : ln j with
  | none => rfl
  | some v =>
    rw [h] at e
    have h1 := hb v h
    have h2 : v = 0 := by
      rcases Nat.eq_zero_or_pos v with z | z
      · exact z
      · exact absurd (by rw [← show x = nI v from e]; exact c) (nI_nle z (by omega))
    rw [h2]
    rfl
def mkF (S B : List Int32) : Nat → List Int32 → Nat → Option (List Int32)
  | 0, T, _ => some T
  | n + 1, T, a => if a < S.length then (match cmd S B T a with | none => none | some y => mkF S B n y.1 y.2) else some T
theorem mkF_end {S B T : List Int32} {n a : Nat} (h : ¬ a < S.length) : mkF S B n T a = some T := by
  cases n with
  | zero => rfl
  | succ n => rw [mkF, if_neg h]
theorem mkF_no {S B T : List Int32} {n a : Nat} (h : a < S.length) (e : cmd S B T a = none) : mkF S B (n + 1) T a = none := by
  rw [mkF, if_pos h, e]
theorem mkF_yes {S B T : List Int32} {n a : Nat} {y : List Int32 × Nat} (h : a < S.length) (e : cmd S B T a = some y) : mkF S B (n + 1) T a = mkF S B n y.1 y.2 := by
  rw [mkF, if_pos h, e]
def mak (S B : List Int32) : Option (List Int32) := mkF S B S.length [] 0
