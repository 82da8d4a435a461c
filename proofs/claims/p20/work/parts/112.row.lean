def pcL (pq : Nat → Option (List Int32)) (q : Nat) : List Int32 := (pq q).getD []
def cat (pq : Nat → Option (List Int32)) (n : Nat) : List Int32 := fl (pcL pq) n
def pqF (pq : Nat → Option (List Int32)) (d : Nat) : Nat → Option (List Int32) := fun j => pq (64 * d + j)
def lnq (pq : Nat → Option (List Int32)) : Nat → Option Nat := fun q => (pq q).map List.length
theorem bgs_cat (pq : Nat → Option (List Int32)) : ∀ n, bgs (lnq pq) n = (cat pq n).length
  | 0 => rfl
  | n + 1 => by
    rw [bgs, bgs_cat pq n, cat, cat, fl, List.length_append, pcL, lnq]
    cases pq n <;> rfl
theorem cat_split {pq : Nat → Option (List Int32)} {q : Nat} : ∀ {n : Nat}, q < n → ∃ R, ∀ pq' : Nat → Option (List Int32), (∀ k, k ≠ q → pq' k = pq k) → cat pq' n = cat pq q ++ (pcL pq' q ++ R)
  | 0, h => absurd h (Nat.not_lt_zero q)
  | n + 1, h => by
    rcases Nat.lt_or_ge q n with z | z
    · obtain ⟨R, hR⟩ := cat_split z
      refine ⟨R ++ pcL pq n, fun pq' h' => ?_⟩
      have e : pcL pq' n = pcL pq n := by rw [pcL, pcL, h' n (by omega)]
      rw [cat, fl, e, ← cat, hR pq' h']
      simp only [List.append_assoc]
    · obtain rfl : q = n := by omega
      refine ⟨[], fun pq' h' => ?_⟩
      rw [cat, fl, List.append_nil, cat, fl_congr (f := pcL pq') (g := pcL pq) (fun j hj => by rw [pcL, pcL, h' j (by omega)])]
def rowOk (pq : Nat → Option (List Int32)) (fr : Nat → Int32) : Prop := sx (cat pq 512) 0 fr
theorem getD_app_l {A B : List Int32} {j : Nat} (h : j < A.length) : (A ++ B).getD j 0 = A.getD j 0 := by
  rw [List.getD_eq_getElem?_getD, List.getD_eq_getElem?_getD, List.getElem?_append_left h]
theorem getD_app_r {A B : List Int32} {j : Nat} : (A ++ B).getD (A.length + j) 0 = B.getD j 0 := by
  rw [List.getD_eq_getElem?_getD, List.getD_eq_getElem?_getD, List.getElem?_append_right (by omega), Nat.add_sub_cancel_left]
theorem getD_mem {L : List Int32} {j : Nat} (h : j < L.length) : L.getD j 0 ∈ L := by
  rw [List.getD_eq_getElem?_getD, List.getElem?_eq_getElem h]
  exact List.getElem_mem _
theorem row_piece {pq : Nat → Option (List Int32)} {fr : Nat → Int32} (h : rowOk pq fr) {q : Nat} {S : List Int32} (hq : q < 512) (hS : pq q = some S) : sx S (bgs (lnq pq) q) fr := by
  obtain ⟨R, hR⟩ := cat_split (pq := pq) hq
  have e := hR pq (fun _ _ => rfl)
  have eS : pcL pq q = S := by rw [pcL, hS]; rfl
  rw [eS] at e
  obtain ⟨h1, h2, h3⟩ := h
  rw [e] at h1 h2 h3
  rw [bgs_cat]
  simp only [List.length_append] at h1 h3
  refine ⟨fun j hj => ?_, fun b hb => h2 b (List.mem_append_right _ (List.mem_append_left _ hb)), by omega⟩
  have := h1 ((cat pq q).length + j) (by omega)
  rw [Nat.zero_add, getD_app_r, getD_app_l hj] at this
  exact this
theorem row_is {pq : Nat → Option (List Int32)} {fr : Nat → Int32} {A S R : List Int32} (e : cat pq 512 = A ++ (S ++ R)) (hA : ∀ j, j < A.length → fr j = A.getD j 0) (hS : ∀ j, j < S.length → fr (A.length + j) = S.getD j 0) (hR : ∀ j, j < R.length → fr (A.length + (S.length + j)) = R.getD j 0) (hB : ∀ b ∈ A ++ (S ++ R), isB b) (hl : A.length + (S.length + R.length) ≤ 16384) : rowOk pq fr := by
  unfold rowOk
  rw [e]
  refine ⟨fun j hj => ?_, hB, by simp only [List.length_append]; omega⟩
  simp only [List.length_append] at hj
  rw [Nat.zero_add]
  rcases Nat.lt_or_ge j A.length with z | z
  · rw [getD_app_l z]; exact hA j z
  · obtain ⟨i, rfl⟩ : ∃ i, j = A.length + i := ⟨j - A.length, by omega⟩
    rw [getD_app_r]
    rcases Nat.lt_or_ge i S.length with y | y
    · rw [getD_app_l y]; exact hS i y
    · obtain ⟨k, rfl⟩ : ∃ k, i = S.length + k := ⟨i - S.length, by omega⟩
      rw [getD_app_r]
      exact hR k (by omega)
theorem row_parts {pq : Nat → Option (List Int32)} {fr : Nat → Int32} (h : rowOk pq fr) {q : Nat} (hq : q < 512) : ∃ R, (∀ pq' : Nat → Option (List Int32), (∀ k, k ≠ q → pq' k = pq k) → cat pq' 512 = cat pq q ++ (pcL pq' q ++ R)) ∧ (∀ j, j < (cat pq q).length → fr j = (cat pq q).getD j 0) ∧ (∀ j, j < (pcL pq q).length → fr ((cat pq q).length + j) = (pcL pq q).getD j 0) ∧ (∀ j, j < R.length → fr ((cat pq q).length + ((pcL pq q).length + j)) = R.getD j 0) ∧ (∀ b ∈ cat pq q, isB b) ∧ (∀ b ∈ pcL pq q, isB b) ∧ (∀ b ∈ R, isB b) ∧ (cat pq q).length + ((pcL pq q).length + R.length) ≤ 16384 := by
  obtain ⟨R, hR⟩ := cat_split (pq := pq) hq
  have e := hR pq (fun _ _ => rfl)
  obtain ⟨h1, h2, h3⟩ := h
  rw [e] at h1 h2 h3
  simp only [List.length_append] at h1 h3
  refine ⟨R, hR, fun j hj => ?_, fun j hj => ?_, fun j hj => ?_, fun b hb => h2 b (List.mem_append_left _ hb), fun b hb => h2 b (List.mem_append_right _ (List.mem_append_left _ hb)), fun b hb => h2 b (List.mem_append_right _ (List.mem_append_right _ hb)), by omega⟩
  · have := h1 j (by omega)
    rw [Nat.zero_add, getD_app_l hj] at this
    exact this
  · have := h1 ((cat pq q).length + j) (by omega)
    rw [Nat.zero_add, getD_app_r, getD_app_l hj] at this
    exact this
  · have := h1 ((cat pq q).length + ((pcL pq q).length + j)) (by omega)
    rw [Nat.zero_add, getD_app_r, getD_app_r] at this
    exact this
theorem row_drop {pq : Nat → Option (List Int32)} {fr fr' : Nat → Int32} (h : rowOk pq fr) {q : Nat} (hq : q < 512) (h1 : ∀ j, j < bgs (lnq pq) q → fr' j = fr j) (h2 : ∀ j, bgs (lnq pq) q ≤ j → j + (pcL pq q).length < 16384 → fr' j = nbb (fr (j + (pcL pq q).length))) : rowOk (va_up pq q none) fr' := by
  obtain ⟨R, hR, a1, a2, a3, b1, b2, b3, hl⟩ := row_parts h hq
  rw [bgs_cat] at h1 h2
  have e := hR (va_up pq q none) (fun k hk => va_up_ne _ _ hk)
  have e0 : pcL (va_up pq q none) q = [] := by rw [pcL, va_up_self]; rfl
  rw [e0] at e
  refine row_is e (fun j hj => (h1 j hj).trans (a1 j hj)) (fun j hj => absurd hj (Nat.not_lt_zero j)) (fun j hj => ?_) (fun b hb => ?_) (by simp only [List.length_nil]; omega)
  · have e9 : (cat pq q).length + (([] : List Int32).length + j) + (pcL pq q).length = (cat pq q).length + ((pcL pq q).length + j) := by simp only [List.length_nil]; omega
    rw [h2 _ (by omega) (by rw [e9]; omega), e9, a3 j hj]
    exact b3 _ (getD_mem hj)
  · rcases List.mem_append.mp hb with z | z
    · exact b1 b z
    · exact b3 b z
theorem row_put {pq : Nat → Option (List Int32)} {fr fr' : Nat → Int32} (h : rowOk pq fr) {q : Nat} {S : List Int32} (hq : q < 512) (hn : pq q = none) (hSB : ∀ b ∈ S, isB b) (hlen : (cat pq 512).length + S.length ≤ 16384) (h1 : ∀ j, j < bgs (lnq pq) q → fr' j = fr j) (h2 : ∀ j, j < S.length → fr' (bgs (lnq pq) q + j) = S.getD j 0) (h3 : ∀ j, bgs (lnq pq) q + S.length ≤ j → j < 16384 → fr' j = nbb (fr (j - S.length))) : rowOk (va_up pq q (some S)) fr' := by
  obtain ⟨R, hR, a1, a2, a3, b1, b2, b3, hl⟩ := row_parts h hq
  have e1 := hR pq (fun _ _ => rfl)
  have e2 : pcL pq q = [] := by rw [pcL, hn]; rfl
  rw [e2] at a3 e1
  rw [e1] at hlen
  simp only [List.length_append, List.length_nil, List.nil_append, Nat.zero_add] at hlen a3
  rw [bgs_cat] at h1 h2 h3
  have e := hR (va_up pq q (some S)) (fun k hk => va_up_ne _ _ hk)
  have e0 : pcL (va_up pq q (some S)) q = S := by rw [pcL, va_up_self]; rfl
  rw [e0] at e
  refine row_is e (fun j hj => (h1 j hj).trans (a1 j hj)) (fun j hj => h2 j hj) (fun j hj => ?_) (fun b hb => ?_) (by omega)
  · have e9 : (cat pq q).length + (S.length + j) - S.length = (cat pq q).length + j := by omega
    rw [h3 _ (by omega) (by omega), e9, a3 j hj]
    exact b3 _ (getD_mem hj)
  · rcases List.mem_append.mp hb with z | z
    · exact b1 b z
    · rcases List.mem_append.mp z with y | y
      · exact hSB b y
      · exact b3 b y
theorem row_set {pq : Nat → Option (List Int32)} {fr : Nat → Int32} (h : rowOk pq fr) {q i : Nat} {S : List Int32} {b : Int32} (hq : q < 512) (hn : pq q = some S) (hi : i < S.length) (hb : isB b) : rowOk (va_up pq q (some (S.set i b))) (upd fr (bgs (lnq pq) q + i) b) := by
  obtain ⟨R, hR, a1, a2, a3, b1, b2, b3, hl⟩ := row_parts h hq
  have e2 : pcL pq q = S := by rw [pcL, hn]; rfl
  rw [e2] at a2 a3 b2 hl
  rw [bgs_cat]
  have e := hR (va_up pq q (some (S.set i b))) (fun k hk => va_up_ne _ _ hk)
  have e0 : pcL (va_up pq q (some (S.set i b))) q = S.set i b := by rw [pcL, va_up_self]; rfl
  rw [e0] at e
  have hu : ∀ k, k ≠ (cat pq q).length + i → upd fr ((cat pq q).length + i) b k = fr k := fun k hk => pk_un hk
  refine row_is e (fun j hj => (hu j (by omega)).trans (a1 j hj)) (fun j hj => ?_) (fun j hj => ?_) (fun x hx => ?_) (by simp only [List.length_set]; omega)
  · simp only [List.length_set] at hj
    by_cases z : j = i
    · subst z
      rw [pk_us, List.getD_eq_getElem?_getD, List.getElem?_set_self hj]
      rfl
    · rw [hu _ (by omega), a2 j hj, List.getD_eq_getElem?_getD, List.getD_eq_getElem?_getD, List.getElem?_set_ne (fun y => z y.symm)]
  · simp only [List.length_set]
    rw [hu _ (by omega)]
    exact a3 j hj
  · rcases List.mem_append.mp hx with z | z
    · exact b1 x z
    · rcases List.mem_append.mp z with y | y
      · rcases List.mem_or_eq_of_mem_set y with w | w
        · exact b2 x w
        · rw [w]; exact hb
      · exact b3 x y
theorem row_bd {pq : Nat → Option (List Int32)} {fr : Nat → Int32} (h : rowOk pq fr) : ∀ j v, j < 512 → lnq pq j = some v → v ≤ 16384 := by
  intro j v hj hv
  unfold lnq at hv
  cases e : pq j with
  | none => rw [e] at hv; cases hv
  | some S =>
    rw [e] at hv
    have := (row_piece h hj e).2.2
    cases hv
    omega
def shf (fr : Nat → Int32) (a n j : Nat) : Nat → Int32 := fun i => if a ≤ i ∧ i < j then nbb (fr (i + n)) else fr i
theorem shf_0 (fr : Nat → Int32) (a n : Nat) : shf fr a n a = fr := by
  funext i
  rw [shf, if_neg (by omega)]
theorem shf_1 {fr : Nat → Int32} {a n j : Nat} (h : a ≤ j) : upd (shf fr a n j) j (nbb (shf fr a n j (j + n))) = shf fr a n (j + 1) := by
  funext i
  have e : shf fr a n j (j + n) = fr (j + n) := by rw [shf, if_neg (by omega)]
  rw [e]
  by_cases z : i = j
  · subst z
    rw [pk_us, shf, if_pos ⟨h, by omega⟩]
  · rw [pk_un z, shf, shf]
    by_cases y : a ≤ i ∧ i < j
    · rw [if_pos y, if_pos ⟨y.1, by omega⟩]
    · rw [if_neg y, if_neg (by omega)]
theorem row_shf {pq : Nat → Option (List Int32)} {fr : Nat → Int32} (h : rowOk pq fr) {q n : Nat} (hq : q < 512) (e : (pcL pq q).length = n) : rowOk (va_up pq q none) (shf fr (bgs (lnq pq) q) n (16384 - n)) := by
  subst e
  refine row_drop h hq (fun j hj => ?_) (fun j h1 h2 => ?_)
  · rw [shf, if_neg (by omega)]
  · rw [shf, if_pos ⟨h1, by omega⟩]
theorem lnq_up {pq : Nat → Option (List Int32)} {fl : Nat → Int32} {q : Nat} (h : ∀ j, j < 512 → fl j = vI (lnq pq j)) : ∀ j, j < 512 → upd fl q (-1) j = vI (lnq (va_up pq q none) j) := by
  intro j hj
  by_cases z : j = q
  · subst z
    rw [pk_us, lnq, va_up_self]
    rfl
  · rw [pk_un z, h j hj, lnq, lnq, va_up_ne _ _ z]
def ndd (r f : Nat) : Nat → Bool
  | 0 => false
  | n + 1 => ndd r f n || decide (wk (f + n) r = r)
def clr (pq : Nat → Option (List Int32)) (d : Nat) (nd : Nat → Bool) (r0 : Nat) : Nat → Option (List Int32) := fun q => if 64 * d ≤ q ∧ q < 64 * d + r0 ∧ nd (q - 64 * d) = false then none else pq q
theorem clr_0 (pq : Nat → Option (List Int32)) (d : Nat) (nd : Nat → Bool) : clr pq d nd 0 = pq := by
  funext q
  rw [clr, if_neg (by omega)]
theorem clr_keep {pq : Nat → Option (List Int32)} {d r0 : Nat} {nd : Nat → Bool} (h : nd r0 = true) : clr pq d nd r0 = clr pq d nd (r0 + 1) := by
  funext q
  unfold clr
  by_cases z : q = 64 * d + r0
  · subst z
    rw [if_neg (by omega), if_neg (fun y => by rw [Nat.add_sub_cancel_left, h] at y; exact absurd y.2.2 (by decide))]
  · by_cases y : 64 * d ≤ q ∧ q < 64 * d + r0 ∧ nd (q - 64 * d) = false
    · rw [if_pos y, if_pos ⟨y.1, by omega, y.2.2⟩]
    · rw [if_neg y, if_neg (fun w => y ⟨w.1, by omega, w.2.2⟩)]
theorem clr_drop {pq : Nat → Option (List Int32)} {d r0 : Nat} {nd : Nat → Bool} (h : nd r0 = false) : va_up (clr pq d nd r0) (64 * d + r0) none = clr pq d nd (r0 + 1) := by
  funext q
  by_cases z : q = 64 * d + r0
  · subst z
    rw [va_up_self, clr, if_pos ⟨by omega, by omega, by rw [Nat.add_sub_cancel_left]; exact h⟩]
  · rw [va_up_ne _ _ z]
    unfold clr
    by_cases y : 64 * d ≤ q ∧ q < 64 * d + r0 ∧ nd (q - 64 * d) = false
    · rw [if_pos y, if_pos ⟨y.1, by omega, y.2.2⟩]
    · rw [if_neg y, if_neg (fun w => y ⟨w.1, by omega, w.2.2⟩)]
theorem clr_gone {pq : Nat → Option (List Int32)} {d r0 : Nat} {nd : Nat → Bool} (h : nd r0 = false) (hn : clr pq d nd r0 (64 * d + r0) = none) : clr pq d nd r0 = clr pq d nd (r0 + 1) := by
  rw [← clr_drop h]
  funext q
  by_cases z : q = 64 * d + r0
  · subst z
    rw [va_up_self, hn]
  · rw [va_up_ne _ _ z]
theorem pcL_le {pq : Nat → Option (List Int32)} {fr : Nat → Int32} (h : rowOk pq fr) {q : Nat} (hq : q < 512) : bgs (lnq pq) q + (pcL pq q).length ≤ 16384 := by
  obtain ⟨R, -, -, -, -, -, -, -, hl⟩ := row_parts h hq
  rw [bgs_cat]
  omega
theorem drp_1 {pq : Nat → Option (List Int32)} {fl : Nat → Int32} {q : Nat} {x y : Int32} (hq : q < 512) (hfl : ∀ j, j < 512 → fl j = vI (lnq pq j)) (e : x = fl (Int32.toNatClampNeg (nI q))) (c : ¬ x ≤ 0) (e2 : y = fl (Int32.toNatClampNeg (nI q))) : y = nI (pcL pq q).length := by
  rw [nI_clamp (by omega), hfl q hq] at e e2
  rw [e2, lnq, pcL]
  cases h : pq q with
  | none => rw [lnq, h] at e; exact absurd (by rw [e]; decide) c
  | some S => rfl
theorem drp_0 {pq : Nat → Option (List Int32)} {fl : Nat → Int32} {q : Nat} {x : Int32} (hq : q < 512) (hfl : ∀ j, j < 512 → fl j = vI (lnq pq j)) (hb : ∀ j v, j < 512 → lnq pq j = some v → v ≤ 16384) (e : x = fl (Int32.toNatClampNeg (nI q))) (c : x ≤ 0) : (0 : Int32) = nI (pcL pq q).length := by
  rw [nI_clamp (by omega), hfl q hq] at e
  rw [pcL]
  cases h : pq q with
  | none => rfl
  | some S =>
    have hl : lnq pq q = some S.length := by rw [lnq, h]; rfl
    rw [hl] at e
    have h1 := hb q _ hq hl
    have h2 : S.length = 0 := by
      rcases Nat.eq_zero_or_pos S.length with z | z
      · exact z
      · exact absurd (by rw [← show x = nI S.length from e]; exact c) (nI_nle z (by omega))
    show (0 : Int32) = nI S.length
    rw [h2]
    rfl
theorem bI_t {b : Bool} (h : ¬ bI b = 0) : b = true := by
  cases b with
  | true => rfl
  | false => exact absurd rfl h
theorem bI_f {b : Bool} (h : bI b = 0) : b = false := by
  cases b with
  | false => rfl
  | true => exact absurd h (by decide)
theorem ndd_o {r f j : Nat} (h : ¬ bI (ndd r f j) = 0) : bI (ndd r f (j + 1)) = 1 := by
  rw [ndd, bI_t h]
  rfl
theorem ndd_u {r f j : Nat} (h : wk (f + j) r = r) : bI (ndd r f (j + 1)) = 1 := by
  rw [ndd, decide_eq_true h, Bool.or_true]
  rfl
theorem ndd_z {r f j : Nat} (h : bI (ndd r f j) = 0) (h2 : ¬ wk (f + j) r = r) : bI (ndd r f (j + 1)) = 0 := by
  rw [ndd, bI_f h, decide_eq_false h2]
  rfl
theorem lnq_none {pq : Nat → Option (List Int32)} {fr fl : Nat → Int32} {q : Nat} (hr : rowOk pq fr) (hfl : ∀ j, j < 512 → fl j = vI (lnq pq j)) (hq : q < 512) (h : fl q = (-1)) : pq q = none := by
  rw [hfl q hq] at h
  cases e : pq q with
  | none => rfl
  | some S =>
    have hl : lnq pq q = some S.length := by rw [lnq, e]; rfl
    rw [hl] at h
    have := row_bd hr q _ hq hl
    exact absurd h (nI_m1 (by omega))
