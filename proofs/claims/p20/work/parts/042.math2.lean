theorem gd_S {own : String} {idx : Nat} {y : MethodName} {cd : ByteArray} {mL : Nat} {rt : Option FieldType} (i1 i2 i3 i4 : Nat) (h1 : w0[i1]? = some (.methodLink own idx y)) (h2 : w0[i2]? = some (.static y)) (h3 : w0[i3]? = some (.initialized y.cls)) (h4 : w0[i4]? = some (.code y cd mL rt)) : GoodIn w0 (va_wsS own idx y (.code y cd mL rt :: w0)) := by
  intro w hw
  unfold va_wsS at hw
  rcases List.mem_append.mp hw with hw | hw
  · have hm : w ∈ w0 := by
      simp only [List.mem_cons, List.not_mem_nil, or_false] at hw
      rcases hw with rfl | rfl | rfl
      · exact List.mem_of_getElem? h1
      · exact List.mem_of_getElem? h2
      · exact List.mem_of_getElem? h3
    exact ⟨hm, gd_ok hm⟩
  · exact gd_I i4 h4 w hw
def dgt (n : Nat) : Nat := if n < 128 then 1 else 2
def encN (n : Nat) : List Int32 := if n < 128 then [nbb (nI n)] else [nbb (nI (n % 128 + 128)), nbb (nI (n / 128))]
theorem encN_len (n : Nat) : (encN n).length = dgt n := by
  unfold encN dgt
  split <;> rfl
theorem dgt_le (n : Nat) : 1 ≤ dgt n ∧ dgt n ≤ 2 := by
  unfold dgt
  split <;> omega
theorem encN_B (n : Nat) : ∀ b ∈ encN n, isB b := by
  intro b hb
  unfold encN at hb
  split at hb
  · rcases List.mem_singleton.mp hb with rfl; exact nbb_B _
  · simp only [List.mem_cons, List.not_mem_nil, or_false] at hb
    rcases hb with rfl | rfl <;> exact nbb_B _
def insE (L : List Int32) (a b : Nat) : List Int32 := if a < b then encN (2 * (b - a)) ++ (L.drop a).take (b - a) else []
theorem nbb_and (b : Int32) : nbb (b &&& 255) = nbb b := by
  unfold nbb
  congr 1
  apply Int8.toBitVec_inj.mp
  simp
  exact BitVec.and_allOnes
theorem x_dg {n : Nat} {x : Int32} (e : x = nI (dgt n) + (-1)) : x ≤ 1 := by
  rw [e]
  unfold dgt
  split <;> decide
theorem x_en1 {n q : Nat} {P : List Int32} {g : Nat → Int32} (c : nI (dgt n) ≤ 1) (h : tx (P ++ [nbb (nI n)]) (q + 1) g) : q + 1 = q + dgt n ∧ tx (P ++ encN n) (q + 1) g := by
  have h1 : n < 128 := by
    rcases Nat.lt_or_ge n 128 with z | z
    · exact z
    · rw [dgt, if_neg (by omega)] at c
      exact absurd c (by decide)
  rw [dgt, encN, if_pos h1, if_pos h1]
  exact ⟨rfl, h⟩
theorem x_en2 {n q : Nat} {P : List Int32} {g : Nat → Int32} (c : ¬ nI (dgt n) ≤ 1) (h : tx (P ++ [nbb (nI (n % 128 + 128))] ++ [nbb (nI (n / 128))]) (q + 1 + 1) g) : q + 1 + 1 = q + dgt n ∧ tx (P ++ encN n) (q + 1 + 1) g := by
  have h1 : ¬ n < 128 := by
    intro z
    rw [dgt, if_pos z] at c
    exact c (by decide)
  rw [dgt, encN, if_neg h1, if_neg h1]
  refine ⟨rfl, ?_⟩
  simpa using h
theorem nbb_at {L : List Int32} {k : Nat} {f : Nat → Int32} (h : tx L k f) {j : Nat} (hj : j < k) (h31 : j < 2 ^ 31) (hk : k < 2 ^ 31) : nbb (bAt L (nI j)) = L.getD j 0 := by
  rw [bAt, if_neg, nI_clamp h31, nbb_and]
  · have := tx_inB h hj
    rw [tx_at h hj] at this
    exact this
  · rw [h.1]
    intro q
    rcases q with q | q
    · exact nI_pos h31 q
    · exact nI_ge hj hk q
theorem take_drop_snoc {L : List Int32} {a j : Nat} (ha : a ≤ j) (hj : j < L.length) : (L.drop a).take (j + 1 - a) = (L.drop a).take (j - a) ++ [L.getD j 0] := by
  have e : j + 1 - a = (j - a) + 1 := by omega
  rw [e, take_snoc (by rw [List.length_drop]; omega), getD_drop]
  congr 3
  omega
theorem x_ins {L P : List Int32} {k a j q : Nat} {f g : Nat → Int32} (h : tx L k f) (hk : k ≤ 256) (ha : a ≤ j) (hj : j < k) (hu : tx (P ++ (L.drop a).take (j - a) ++ [nbb (bAt L (nI j))]) q g) : tx (P ++ (L.drop a).take (j + 1 - a)) q g := by
  rw [nbb_at h hj (by omega) (by omega)] at hu
  rw [take_drop_snoc ha (by rw [h.1]; exact hj), ← List.append_assoc]
  exact hu
theorem x_insF {L P : List Int32} {a b q : Nat} {g : Nat → Int32} (c : ¬ nI a < nI b) (ha : a < 2 ^ 31) (hb : b < 2 ^ 31) (h : tx P q g) : q = q + (insE L a b).length ∧ tx (P ++ insE L a b) q g := by
  have h1 : ¬ a < b := fun z => c ((nI_ltI ha hb).mpr z)
  rw [insE, if_neg h1, List.append_nil]
  exact ⟨rfl, h⟩
theorem x_insT {L P : List Int32} {a b q q2 : Nat} {g : Nat → Int32} (hab : a < b) (hb : b ≤ L.length) (e : q2 = q + dgt (2 * (b - a))) (h : tx ((P ++ encN (2 * (b - a))) ++ (L.drop a).take (b - a)) (q2 + (b - a)) g) : q2 + (b - a) = q + (insE L a b).length ∧ tx (P ++ insE L a b) (q2 + (b - a)) g := by
  rw [insE, if_pos hab]
  constructor
  · rw [List.length_append, encN_len, List.length_take, List.length_drop, Nat.min_eq_left (by omega)]
    omega
  · rw [← List.append_assoc]
    exact h
def bst (L : List Int32) (i : Nat) (M : List Int32) : Nat → Nat × Nat
  | 0 => (0, 0)
  | j + 1 => if (bst L i M j).1 < cpl (L.drop i) (M.drop j) then (cpl (L.drop i) (M.drop j), j) else bst L i M j
theorem bst_gt {L M : List Int32} {i j : Nat} (h : ¬ cpl (L.drop i) (M.drop j) ≤ (bst L i M j).1) : bst L i M (j + 1) = (cpl (L.drop i) (M.drop j), j) := by
  rw [bst, if_pos (by omega)]
theorem bst_le {L M : List Int32} {i j : Nat} (h : cpl (L.drop i) (M.drop j) ≤ (bst L i M j).1) : bst L i M (j + 1) = bst L i M j := by
  rw [bst, if_neg (by omega)]
theorem bst_le1 (L : List Int32) (i : Nat) (M : List Int32) : ∀ j, (bst L i M j).1 ≤ L.length - i
  | 0 => by simp [bst]
  | j + 1 => by
    have h1 := bst_le1 L i M j
    have h2 := cpl_le1 (L.drop i) (M.drop j)
    rw [List.length_drop] at h2
    rw [bst]
    split
    · exact h2
    · exact h1
theorem bst_lt (L : List Int32) (i : Nat) (M : List Int32) : ∀ j, (bst L i M j).2 ≤ j ∧ (0 < (bst L i M j).1 → (bst L i M j).2 < j)
  | 0 => by simp [bst]
  | j + 1 => by
    have h1 := bst_lt L i M j
    rw [bst]
    split
    · exact ⟨Nat.le_succ j, fun _ => Nat.lt_succ_self j⟩
    · exact ⟨by omega, fun z => by have := h1.2 z; omega⟩
theorem bst_ge (L : List Int32) (i : Nat) (M : List Int32) : ∀ j t, t < j → cpl (L.drop i) (M.drop t) ≤ (bst L i M j).1
  | 0, t, h => absurd h (Nat.not_lt_zero t)
  | j + 1, t, h => by
    rw [bst]
    rcases Nat.lt_or_ge t j with q | q
    · have := bst_ge L i M j t q
      split
      · simp only; omega
      · exact this
    · obtain rfl : t = j := by omega
      split
      · exact Nat.le_refl _
      · omega
theorem bst_is (L : List Int32) (i : Nat) (M : List Int32) : ∀ j, 0 < (bst L i M j).1 → (bst L i M j).1 = cpl (L.drop i) (M.drop (bst L i M j).2)
  | 0, h => absurd h (by simp [bst])
  | j + 1, h => by
    rw [bst] at h ⊢
    split
    · rfl
    · rename_i z
      rw [if_neg z] at h
      exact bst_is L i M j h
theorem bst_run (L : List Int32) (i : Nat) (M : List Int32) : cpl (L.drop i) (M.drop (bst L i M M.length).2) = (bst L i M M.length).1 := by
  rcases Nat.eq_zero_or_pos (bst L i M M.length).1 with z | z
  · rcases Nat.eq_zero_or_pos M.length with y | y
    · have : M = [] := List.eq_nil_of_length_eq_zero y
      subst this
      rw [z]
      have := cpl_le2 (L.drop i) (([] : List Int32).drop (bst L i [] ([] : List Int32).length).2)
      simp at this ⊢
      omega
    · have h1 := (bst_lt L i M M.length).1
      rcases Nat.lt_or_ge (bst L i M M.length).2 M.length with q | q
      · have := bst_ge L i M M.length _ q
        omega
      · have h2 := cpl_le2 (L.drop i) (M.drop (bst L i M M.length).2)
        rw [List.length_drop] at h2
        omega
  · exact (bst_is L i M M.length z).symm
theorem x_dg2 {n : Nat} (c : ¬ nI (dgt n) ≤ 1) : dgt n = 2 := by
  unfold dgt at c ⊢
  split
  · rename_i z
    rw [if_pos z] at c
    exact absurd (by decide) c
  · rfl
theorem dgt_ins (m : Nat) : 1 ≤ m → dgt (2 * m) ≤ m := by
  intro h
  unfold dgt
  split <;> omega
theorem insE_len {L : List Int32} {a b : Nat} (hab : a ≤ b) (hb : b ≤ L.length) : (insE L a b).length ≤ 2 * (b - a) := by
  unfold insE
  split
  · have := dgt_ins (b - a) (by omega)
    rw [List.length_append, encN_len, List.length_take, List.length_drop, Nat.min_eq_left (by omega)]
    omega
  · exact Nat.zero_le _
def dif (L M : List Int32) : Nat → Nat → Nat → List Int32
  | 0, _, nw => insE L nw L.length
  | n + 1, i, nw => if i < L.length then (if 4 ≤ (bst L i M M.length).1 then insE L nw i ++ (encN (2 * (bst L i M M.length).1 + 1) ++ (encN (bst L i M M.length).2 ++ dif L M n (i + (bst L i M M.length).1) (i + (bst L i M M.length).1))) else dif L M n (i + 1) nw) else insE L nw L.length
theorem dif_skip {L M : List Int32} {m n i nw : Nat} (e : M.length = m) (hi : i < L.length) (h : ¬ 4 ≤ cpl (L.drop i) (M.drop (bst L i M m).2)) : dif L M (n + 1) i nw = dif L M n (i + 1) nw := by
  subst e
  rw [bst_run] at h
  rw [dif, if_pos hi, if_neg h]
theorem dif_copy {L M : List Int32} {m n i nw : Nat} (e : M.length = m) (hi : i < L.length) (h : 4 ≤ cpl (L.drop i) (M.drop (bst L i M m).2)) : dif L M (n + 1) i nw = insE L nw i ++ (encN (2 * cpl (L.drop i) (M.drop (bst L i M m).2) + 1) ++ (encN (bst L i M m).2 ++ dif L M n (i + cpl (L.drop i) (M.drop (bst L i M m).2)) (i + cpl (L.drop i) (M.drop (bst L i M m).2)))) := by
  subst e
  rw [bst_run] at h ⊢
  rw [dif, if_pos hi, if_pos h]
theorem dif_end {L M : List Int32} {n i nw : Nat} (hi : ¬ i < L.length) : dif L M n i nw = insE L nw L.length := by
  cases n with
  | zero => rfl
  | succ n => rw [dif, if_neg hi]
theorem x_difE {L M P D : List Int32} {k nw q q2 F : Nat} {g : Nat → Int32} (e : L.length = k) (h0 : nw ≤ k) (h2 : q ≤ 2 * nw) (hk : k ≤ 256) (h4 : P ++ dif L M F k nw = D) (u0 : q2 = q + (insE L nw k).length) (u1 : tx (P ++ insE L nw k) q2 g) : q2 ≤ 512 ∧ tx D q2 g := by
  subst e
  rw [dif_end (Nat.lt_irrefl _)] at h4
  rw [h4] at u1
  have := insE_len (L := L) h0 (Nat.le_refl _)
  exact ⟨by omega, u1⟩
theorem insE_len0 {L : List Int32} {k : Nat} (e : L.length = k) : (insE L 0 k).length ≤ dgt (2 * k) + k := by
  subst e
  unfold insE
  split
  · rw [List.length_append, encN_len, List.length_take, List.length_drop, Nat.sub_zero, Nat.min_self]
    exact Nat.le_refl _
  · exact Nat.zero_le _
def pce (L M : List Int32) : List Int32 := if (dif L M L.length 0 0).length ≤ dgt (2 * L.length) + L.length then dif L M L.length 0 0 else insE L 0 L.length
theorem x_pce1 {L M : List Int32} {k n : Nat} {f : Nat → Int32} (e : L.length = k) (h : (dif L M k 0 0).length ≤ dgt (2 * k) + k) (u : tx (dif L M k 0 0) n f) : tx (pce L M) n f := by
  subst e
  rw [pce, if_pos h]
  exact u
theorem x_pce2 {L M : List Int32} {k n : Nat} {f : Nat → Int32} (e : L.length = k) (h : ¬ (dif L M k 0 0).length ≤ dgt (2 * k) + k) (u : tx ([] ++ insE L 0 k) n f) : tx (pce L M) n f := by
  subst e
  rw [pce, if_neg h]
  exact u
theorem y_en1 {n q : Nat} {P : List Int32} {g : Nat → Int32} (hn : n < 2 ^ 31) (c : nI n ≤ 127) (h : tx (P ++ [nbb (nI n)]) (q + 1) g) : q + 1 = q + dgt n ∧ tx (P ++ encN n) (q + 1) g := by
  have h1 : n ≤ 127 := (nI_leI hn (by decide)).mp (show nI n ≤ nI 127 from c)
  rw [dgt, encN, if_pos (by omega), if_pos (by omega)]
  exact ⟨rfl, h⟩
theorem y_en2 {n q : Nat} {P : List Int32} {g : Nat → Int32} (hn : n < 2 ^ 31) (c : ¬ nI n ≤ 127) (h : tx (P ++ [nbb (nI (n % 128 + 128))] ++ [nbb (nI (n / 128))]) (q + 1 + 1) g) : q + 1 + 1 = q + dgt n ∧ tx (P ++ encN n) (q + 1 + 1) g := by
  have h1 : ¬ n < 128 := fun z => c (show nI n ≤ nI 127 from nI_le (by omega) (by decide))
  rw [dgt, encN, if_neg h1, if_neg h1]
  refine ⟨rfl, ?_⟩
  simpa using h
theorem y_ins {L P : List Int32} {k a j q : Nat} {x : Int32} {f g : Nat → Int32} (h : tx L k f) (hk : k ≤ 256) (ha : a ≤ j) (hj : j < k) (e : x = f (Int32.toNatClampNeg (nI j))) (hu : tx (P ++ (L.drop a).take (j - a) ++ [nbb x]) q g) : tx (P ++ (L.drop a).take (j + 1 - a)) q g := by
  rw [nI_clamp (by omega)] at e
  rw [e, show nbb (f j) = f j from tx_inB h hj, tx_at h hj] at hu
  rw [take_drop_snoc ha (by rw [h.1]; exact hj), ← List.append_assoc]
  exact hu
theorem y_insF {L P : List Int32} {a b q : Nat} {g : Nat → Int32} (c : nI b ≤ nI a) (ha : a < 2 ^ 31) (hb : b < 2 ^ 31) (h : tx P q g) : q = q + (insE L a b).length ∧ tx (P ++ insE L a b) q g := by
  have h1 := (nI_leI hb ha).mp c
  rw [insE, if_neg (by omega), List.append_nil]
  exact ⟨rfl, h⟩
def oneE (k : Nat) : Nat := if k = 0 then 0 else dgt (2 * k) + k
theorem insE_0 (L : List Int32) : (insE L 0 L.length).length = oneE L.length := by
  unfold insE oneE
  split
  · rw [if_neg (by omega), List.length_append, encN_len, List.length_take, List.length_drop, Nat.sub_zero, Nat.min_self]
  · rw [if_pos (by omega)]; rfl
theorem dif_0 (L M : List Int32) (h : L.length = 0) : (dif L M L.length 0 0).length = 0 := by
  rw [dif_end (by omega), h, insE, if_neg (by omega)]; rfl
theorem y_pce1 {L M : List Int32} {k n : Nat} {f : Nat → Int32} (e : L.length = k) (h : (dif L M k 0 0).length ≤ oneE k) (u : tx (dif L M k 0 0) n f) : tx (pce L M) n f := by
  subst e
  rw [pce, if_pos]
  · exact u
  · refine Nat.le_trans h ?_
    unfold oneE
    split
    · exact Nat.zero_le _
    · exact Nat.le_refl _
theorem y_pce2 {L M : List Int32} {k n : Nat} {f : Nat → Int32} (e : L.length = k) (h : ¬ (dif L M k 0 0).length ≤ oneE k) (u : tx ([] ++ insE L 0 k) n f) : tx (pce L M) n f := by
  subst e
  rw [pce, if_neg]
  · exact u
  · intro z
    apply h
    unfold oneE
    split
    · next h0 => rw [dif_0 L M h0]; exact Nat.le_refl _
    · exact z
theorem dif_skip1 {L M : List Int32} {m n i nw : Nat} (e : M.length = m) (hi : i < L.length) (h : ¬ 4 ≤ (bst L i M m).1) : dif L M (n + 1) i nw = dif L M n (i + 1) nw := by
  subst e
  rw [dif, if_pos hi, if_neg h]
theorem dif_copy1 {L M : List Int32} {m n i nw : Nat} (e : M.length = m) (hi : i < L.length) (h : 4 ≤ (bst L i M m).1) : dif L M (n + 1) i nw = insE L nw i ++ (encN (2 * (bst L i M m).1 + 1) ++ (encN (bst L i M m).2 ++ dif L M n (i + (bst L i M m).1) (i + (bst L i M m).1))) := by
  subst e
  rw [dif, if_pos hi, if_pos h]
theorem oneE_1 {k : Nat} (h : k ≠ 0) (h2 : k < 64) : oneE k = k + 1 := by
  unfold oneE dgt
  rw [if_neg h, if_pos (by omega)]
  omega
theorem oneE_2 {k : Nat} (h2 : ¬ k < 64) : oneE k = k + 2 := by
  unfold oneE dgt
  rw [if_neg (by omega), if_neg (by omega)]
  omega
theorem oneE_le (k : Nat) : oneE k ≤ k + 2 := by
  unfold oneE dgt
  split
  · omega
  · split <;> omega
