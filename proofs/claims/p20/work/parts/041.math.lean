/-! the mathematical values: bytes as they are stored, texts as lists of them -/
def nbb (x : Int32) : Int32 := x.toInt8.toInt32
def isB (x : Int32) : Prop := nbb x = x
theorem nbb_B (x : Int32) : isB (nbb x) := by
  unfold isB nbb
  exact pk_vb x
def bI (b : Bool) : Int32 := if b then 1 else 0
def tx (L : List Int32) (k : Nat) (f : Nat → Int32) : Prop := L.length = k ∧ (∀ j, j < k → f j = L.getD j 0) ∧ ∀ b ∈ L, isB b
theorem tx_nil (f : Nat → Int32) : tx [] 0 f := ⟨rfl, fun _ h => absurd h (Nat.not_lt_zero _), fun _ h => by cases h⟩
theorem tx_push {L : List Int32} {k : Nat} {f : Nat → Int32} {b : Int32} (h : tx L k f) (hb : isB b) : tx (L ++ [b]) (k + 1) (upd f k b) := by
  obtain ⟨h1, h2, h3⟩ := h
  refine ⟨by simp [h1], fun j hj => ?_, fun c hc => ?_⟩
  · by_cases e : j = k
    · subst e
      rw [pk_us]
      simp [List.getD, List.getElem?_append_right, h1]
    · rw [pk_un e, h2 j (by omega)]
      simp [List.getD, List.getElem?_append_left (show j < L.length by omega)]
  · rcases List.mem_append.mp hc with hc | hc
    · exact h3 c hc
    · rcases List.mem_singleton.mp hc with rfl
      exact hb
theorem tx_take {L : List Int32} {k n : Nat} {f : Nat → Int32} (h : tx L k f) (hn : n ≤ k) : tx (L.take n) n f := by
  obtain ⟨h1, h2, h3⟩ := h
  refine ⟨by simp [h1]; omega, fun j hj => ?_, fun c hc => h3 c (List.mem_of_mem_take hc)⟩
  rw [h2 j (by omega)]
  simp [List.getD, List.getElem?_take, hj]
theorem tx_cpy {L : List Int32} {k : Nat} {f g : Nat → Int32} (h : tx L k f) : tx L k (va_cpy f g 0 0 k) := by
  refine ⟨h.1, fun j hj => ?_, h.2.2⟩
  rw [pk_cpy_in (Nat.zero_le j) (by omega)]
  simpa using h.2.1 j hj
theorem tx_eq {L : List Int32} {k : Nat} {f g : Nat → Int32} (h : tx L k f) (e : ∀ j, j < k → g j = f j) : tx L k g := ⟨h.1, fun j hj => (e j hj).trans (h.2.1 j hj), h.2.2⟩
theorem tx_at {L : List Int32} {k : Nat} {f : Nat → Int32} (h : tx L k f) {j : Nat} (hj : j < k) : f j = L.getD j 0 := h.2.1 j hj
theorem tx_inB {L : List Int32} {k : Nat} {f : Nat → Int32} (h : tx L k f) {j : Nat} (hj : j < k) : isB (f j) := by
  rw [h.2.1 j hj]
  have : j < L.length := by rw [h.1]; exact hj
  apply h.2.2
  simp [List.getD, List.getElem?_eq_getElem this]
/-- a text's sum -/
def sumL (L : List Int32) : Int32 := L.foldl (fun s b => s * 31 + (b &&& 255) + 1) 0
theorem sumL_snoc (L : List Int32) (b : Int32) : sumL (L ++ [b]) = sumL L * 31 + (b &&& 255) + 1 := by
  simp [sumL, List.foldl_append]
theorem take_snoc {L : List Int32} {i : Nat} (h : i < L.length) : L.take (i + 1) = L.take i ++ [L.getD i 0] := by
  rw [List.take_succ]
  simp [List.getD, List.getElem?_eq_getElem h]
theorem sumL_take {L : List Int32} {i : Nat} (h : i < L.length) : sumL (L.take (i + 1)) = sumL (L.take i) * 31 + (L.getD i 0 &&& 255) + 1 := by
  rw [take_snoc h, sumL_snoc]
/-- how many bytes two lists have in common at their heads -/
def cpl : List Int32 → List Int32 → Nat
  | a :: x, b :: y => if a = b then cpl x y + 1 else 0
  | _, _ => 0
theorem cpl_ge : ∀ (n : Nat) (x y : List Int32), n ≤ x.length → n ≤ y.length → (∀ t, t < n → x.getD t 0 = y.getD t 0) → n ≤ cpl x y
  | 0, _, _, _, _, _ => Nat.zero_le _
  | n + 1, [], _, h, _, _ => absurd h (by simp)
  | n + 1, _ :: _, [], _, h, _ => absurd h (by simp)
  | n + 1, a :: x, b :: y, h1, h2, h3 => by
    have e : a = b := by simpa using h3 0 (Nat.succ_pos n)
    have := cpl_ge n x y (by simpa using h1) (by simpa using h2) (fun t ht => by simpa using h3 (t + 1) (by omega))
    simp only [cpl, e, if_true]
    omega
theorem cpl_le1 : ∀ (x y : List Int32), cpl x y ≤ x.length
  | [], _ => by simp [cpl]
  | _ :: _, [] => by simp [cpl]
  | a :: x, b :: y => by
    have := cpl_le1 x y
    simp only [cpl, List.length_cons]
    split <;> omega
theorem cpl_le2 : ∀ (x y : List Int32), cpl x y ≤ y.length
  | [], _ => by simp [cpl]
  | _ :: _, [] => by simp [cpl]
  | a :: x, b :: y => by
    have := cpl_le2 x y
    simp only [cpl, List.length_cons]
    split <;> omega
theorem cpl_eq : ∀ (x y : List Int32) (t : Nat), t < cpl x y → x.getD t 0 = y.getD t 0
  | [], _, _, h => absurd h (by simp [cpl])
  | _ :: _, [], _, h => absurd h (by simp [cpl])
  | a :: x, b :: y, t, h => by
    simp only [cpl] at h
    split at h
    · rename_i e
      match t with
      | 0 => simpa using e
      | t + 1 => simpa using cpl_eq x y t (by omega)
    · exact absurd h (Nat.not_lt_zero _)
/-- n is it, where it ends: all ahead are equal, and an end or a difference is there -/
theorem cpl_is {x y : List Int32} {n : Nat} (h1 : n ≤ x.length) (h2 : n ≤ y.length) (h3 : ∀ t, t < n → x.getD t 0 = y.getD t 0) (h4 : n = x.length ∨ n = y.length ∨ x.getD n 0 ≠ y.getD n 0) : cpl x y = n := by
  have a := cpl_ge n x y h1 h2 h3
  have b := cpl_le1 x y
  have c := cpl_le2 x y
  rcases Nat.lt_or_ge n (cpl x y) with q | q
  · exfalso
    rcases h4 with h4 | h4 | h4
    · omega
    · omega
    · exact h4 (cpl_eq x y n q)
  · omega
theorem getD_drop (L : List Int32) (i t : Nat) : (L.drop i).getD t 0 = L.getD (i + t) 0 := by
  simp [List.getD, List.getElem?_drop]
/-- the byte that fed lays for an int: the q-th from above -/
def fb (v : Int32) (q : Nat) : Int32 := nbb (v >>> (nI (24 - 8 * q) &&& 31))
def fb4 (v : Int32) : List Int32 := [fb v 0, fb v 1, fb v 2, fb v 3]
/-- the byte at a place, or none -/
def bAt (L : List Int32) (i : Int32) : Int32 := if i < 0 ∨ nI L.length ≤ i then (-1) else L.getD i.toNatClampNeg 0 &&& 255
theorem x_ltK {x : Int32} {k : Nat} (h1 : ¬ x < 0) (h2 : ¬ nI k ≤ x) : x.toNatClampNeg < k := by
  obtain ⟨j, hj, rfl⟩ := nI_of h1
  rw [nI_clamp hj]
  rcases Nat.lt_or_ge j k with q | q
  · exact q
  · exact absurd (nI_le q hj) h2
theorem x_inK {x : Int32} {k n : Nat} (hk : k ≤ n) (hn : n < 2 ^ 31) (h1 : ¬ x < 0) (h2 : ¬ nI k ≤ x) : vp_in x n := by
  obtain ⟨j, hj, rfl⟩ := nI_of h1
  have := x_ltK h1 h2
  rw [nI_clamp hj] at this
  exact vp_in_nI (by omega) hn
theorem x_min {a b : Nat} (ha : a < 2 ^ 31) (hb : b < 2 ^ 31) : (if nI b < nI a then nI b else nI a) = nI (min a b) := by
  by_cases h : b < a
  · rw [if_pos ((nI_ltI hb ha).mpr h), Nat.min_eq_right (by omega)]
  · rw [if_neg (fun q => h ((nI_ltI hb ha).mp q)), Nat.min_eq_left (by omega)]
theorem fits_B {b : Int32} (h : isB b) : fits .byte (.int b) = true := by
  rw [← h]
  exact pk_fb b
