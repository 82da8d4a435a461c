theorem rev_at {L : List Int32} {k : Nat} {f : Nat → Int32} (h : tx L k f) {j : Nat} (hj : j < k) : L.reverse.getD j 0 = L.getD (k - 1 - j) 0 := by
  rw [List.getD_eq_getElem?_getD, List.getD_eq_getElem?_getD, List.getElem?_reverse (by rw [h.1]; exact hj), h.1]
theorem cpb_1 {Y X : List Int32} {k ko j n : Nat} {f fo : Nat → Int32} (hY : tx Y k f) (hX : tx X ko fo) (hj : j ≤ min k ko - n) (hlt : j < min k ko - n) (h : ∀ t, t < j → Y.reverse.getD t 0 = X.reverse.getD t 0) (hne : ¬ Y.reverse.getD j 0 = X.reverse.getD j 0) : min (cpl Y.reverse X.reverse) (min k ko - n) = j := by
  have e : cpl Y.reverse X.reverse = j := cpl_is (by rw [List.length_reverse, hY.1]; omega) (by rw [List.length_reverse, hX.1]; omega) h (Or.inr (Or.inr hne))
  rw [e]
  omega
theorem cpb_2 {Y X : List Int32} {k ko j n : Nat} {f fo : Nat → Int32} (hY : tx Y k f) (hX : tx X ko fo) (hj : j = min k ko - n) (hk : k < 2 ^ 31) (h : ∀ t, t < j → Y.reverse.getD t 0 = X.reverse.getD t 0) : min (cpl Y.reverse X.reverse) (min k ko - n) = j := by
  have := cpl_ge j Y.reverse X.reverse (by rw [List.length_reverse, hY.1]; omega) (by rw [List.length_reverse, hX.1]; omega) h
  omega
