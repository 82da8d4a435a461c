theorem rev_at {L : List Int32} {k : Nat} {f : Nat → Int32} (h : tx L k f) {j : Nat} (hj : j < k) : L.reverse.getD j 0 = L.getD (k - 1 - j) 0 := by
  rw [List.getD_eq_getElem?_getD, List.getD_eq_getElem?_getD, List.getElem?_reverse (by rw [h.1]; exact hj), h.1]
theorem cpb_1 {Y X : List Int32} {k ko j n : Nat} {f fo : Nat → Int32} (hY : tx Y k f) (hX : tx X ko fo) (hj : j ≤ min k ko - n) (hlt : j < min k ko - n) (h : ∀ t, t < j → Y.reverse.getD t 0 = X.reverse.getD t 0) (hne : ¬ Y.reverse.getD j 0 = X.reverse.getD j 0) : min (cpl Y.reverse X.reverse) (min k ko - n) = j := by
  have e : cpl Y.reverse X.reverse = j := cpl_is (by rw [List.length_reverse, hY.1]; omega) (by rw [List.length_reverse, hX.1]; omega) h (Or.inr (Or.inr hne))
  rw [e]
  omega
theorem cpb_2 {Y X : List Int32} {k ko j n : Nat} {f fo : Nat → Int32} (hY : tx Y k f) (hX : tx X ko fo) (hj : j = min k ko - n) (hk : k < 2 ^ 31) (h : ∀ t, t < j → Y.reverse.getD t 0 = X.reverse.getD t 0) : min (cpl Y.reverse X.reverse) (min k ko - n) = j := by
  have := cpl_ge j Y.reverse X.reverse (by rw [List.length_reverse, hY.1]; omega) (by rw [List.length_reverse, hX.1]; omega) h
  omega
theorem cm_w {w : Int32} (h : w < 0 ∨ 1 < w) : ¬ (w = 0 ∨ w = 1) := by
  rintro (rfl | rfl) <;> exact absurd h (by decide)
theorem cm_n {P Q : Prop} {w : Int32} (h1 : ¬ P) (h2 : ¬ Q) (h3 : ¬ w < 0) (h4 : w ≤ 1) (q : P ∨ Q ∨ ¬ (w = 0 ∨ w = 1)) : False := by
  rcases q with q | q | q
  · exact h1 q
  · exact h2 q
  · apply q
    obtain ⟨j, hj, rfl⟩ := nI_of h3
    have h5 := (nI_leI (b := 1) hj (by decide)).mp h4
    rcases Nat.eq_zero_or_pos j with z | z
    · subst z; exact Or.inl rfl
    · obtain rfl : j = 1 := by omega
      exact Or.inr rfl
theorem cpl_comm : ∀ x y : List Int32, cpl x y = cpl y x
  | [], [] => rfl
  | [], _ :: _ => rfl
  | _ :: _, [] => rfl
  | a :: x, b :: y => by
    rw [cpl, cpl, cpl_comm x y]
    by_cases e : a = b
    · rw [if_pos e, if_pos e.symm]
    · rw [if_neg e, if_neg (fun z => e z.symm)]
theorem cpb_eq {Y X : List Int32} {k ko : Nat} {f fo : Nat → Int32} (hY : tx Y k f) (hX : tx X ko fo) : cpb X Y = min (cpl Y.reverse X.reverse) (min k ko - cpl Y X) := by
  rw [cpb, cpl_comm X.reverse, cpl_comm X Y, hY.1, hX.1, Nat.min_comm ko k]
def sndR (rv : Nat → Option Rc) (r : Nat) : Bool :=
  match agn (rvP rv) r, rv r with
  | some Y, some v => decide (sumL Y = v.sm)
  | _, _ => false
theorem sndR_n {rv : Nat → Option Rc} {r : Nat} (h : agn (rvP rv) r = none) : sndR rv r = false := by rw [sndR, h]
theorem sndR_t {rv : Nat → Option Rc} {r : Nat} {Y : List Int32} {v : Rc} (h1 : agn (rvP rv) r = some Y) (h2 : rv r = some v) (h : sumL Y = v.sm) : sndR rv r = true := by
  rw [sndR, h1, h2]
  exact decide_eq_true h
theorem sndR_f {rv : Nat → Option Rc} {r : Nat} {Y : List Int32} {v : Rc} (h1 : agn (rvP rv) r = some Y) (h2 : rv r = some v) (h : ¬ sumL Y = v.sm) : sndR rv r = false := by
  rw [sndR, h1, h2]
  exact decide_eq_false h
theorem snd_M (d : Dc) (r : Nat) : snd6 (dcM d) r = sndR d.rv r := by
  rw [snd6, sndR, dmP_M]
  show (match agn (rvP d.rv) r, (d.rv r).map rcM with | some Y, some v => decide (sumL Y = v.sm) | _, _ => false) = _
  cases agn (rvP d.rv) r <;> cases d.rv r <;> rfl
def vrS (rv : Nat → Option Rc) : Nat → Nat → Int32
  | 0, _ => -1
  | n + 1, r => if sndR rv r then vrS rv n (r + 1) else nI r
theorem vrS_f {rv : Nat → Option Rc} : ∀ n r k, r ≤ k → k < r + n → (∀ t, r ≤ t → t < k → sndR rv t = true) → sndR rv k = false → vrS rv n r = nI k
  | 0, r, k, h1, h2, _, _ => by omega
  | n + 1, r, k, h1, h2, h3, h4 => by
    rw [vrS]
    by_cases z : r = k
    · subst z
      rw [if_neg (by rw [h4]; decide)]
    · rw [if_pos (h3 r (Nat.le_refl _) (by omega))]
      exact vrS_f n (r + 1) k (by omega) (by omega) (fun t a b => h3 t (by omega) b) h4
theorem vrS_t {rv : Nat → Option Rc} : ∀ n r, (∀ t, r ≤ t → t < r + n → sndR rv t = true) → vrS rv n r = (-1)
  | 0, _, _ => rfl
  | n + 1, r, h => by
    rw [vrS, if_pos (h r (Nat.le_refl _) (by omega))]
    exact vrS_t n (r + 1) (fun t a b => h t (by omega) (by omega))
theorem vrS_M (d : Dc) : ∀ n r, vrf (dcM d) n r = vrS d.rv n r
  | 0, _ => rfl
  | n + 1, r => by rw [vrf, vrS, snd_M, vrS_M d n (r + 1)]
theorem plR_app {cB : ClassId} {rv : Nat → Option Rc} {X pl : va_W} (h : plR cB rv pl) : plR cB rv (X ++ pl) := fun j r hj hr => by
  obtain ⟨pl', hp⟩ := h j r hj hr
  refine ⟨X ++ pl', ?_⟩
  have h1 := hp.append_left X
  refine h1.trans ?_
  rw [← List.append_assoc, ← List.append_assoc]
  exact List.perm_append_comm.append_right pl'
