def byv (S : List Int32) (a : Nat) : Nat := (S.getD a 0 &&& 255).toNatClampNeg
theorem and255 (b : Int32) : b &&& 255 = nI (b &&& 255).toNatClampNeg ∧ (b &&& 255).toNatClampNeg < 256 := by
  have h : ∀ x : BitVec 32, (Int32.ofBitVec (x &&& 255#32)) = nI (Int32.ofBitVec (x &&& 255#32)).toNatClampNeg ∧ (Int32.ofBitVec (x &&& 255#32)).toNatClampNeg < 256 := by
    intro x
    have h1 : x &&& 255#32 = BitVec.ofNat 32 (x.toNat % 256) := by
      apply BitVec.eq_of_toNat_eq
      rw [BitVec.toNat_and, BitVec.toNat_ofNat, BitVec.toNat_ofNat]
      have h2 : x.toNat &&& 255 = x.toNat % 256 := Nat.and_two_pow_sub_one_eq_mod x.toNat 8
      rw [show 255 % 2 ^ 32 = 255 from rfl, h2]
      omega
    rw [h1]
    have h3 : x.toNat % 256 < 256 := Nat.mod_lt _ (by decide)
    generalize x.toNat % 256 = y at h3
    exact (by decide +kernel : ∀ y : Fin 256, Int32.ofBitVec (BitVec.ofNat 32 y.1) = nI (Int32.ofBitVec (BitVec.ofNat 32 y.1)).toNatClampNeg ∧ (Int32.ofBitVec (BitVec.ofNat 32 y.1)).toNatClampNeg < 256) ⟨y, h3⟩
  exact h b.toBitVec
theorem byv_lt (S : List Int32) (a : Nat) : byv S a < 256 := (and255 _).2
theorem byv_eq (S : List Int32) (a : Nat) : S.getD a 0 &&& 255 = nI (byv S a) := (and255 _).1
theorem ld_byv {S : List Int32} {n T : Nat} {f : Nat → Int32} (h : tx S n f) (hT : T < n) (hn : n < 2 ^ 31) : f (Int32.toNatClampNeg (nI T)) &&& 255 = nI (byv S T) := by
  rw [nI_clamp (by omega), tx_at h hT]
  exact byv_eq S T
theorem sh_0 (x : Nat) (h : x < 128) : nI x <<< ((0 : Int32) &&& 31) = nI x := (by decide +kernel : ∀ x : Fin 128, nI x.1 <<< ((0 : Int32) &&& 31) = nI x.1) ⟨x, h⟩
theorem sh_7 (x : Nat) (h : x < 128) : nI x <<< ((7 : Int32) &&& 31) = nI (x * 128) := (by decide +kernel : ∀ x : Fin 128, nI x.1 <<< ((7 : Int32) &&& 31) = nI (x.1 * 128)) ⟨x, h⟩
theorem sh_14 (x : Nat) (h : x < 128) : nI x <<< ((14 : Int32) &&& 31) = nI (x * 16384) := (by decide +kernel : ∀ x : Fin 128, nI x.1 <<< ((14 : Int32) &&& 31) = nI (x.1 * 16384)) ⟨x, h⟩
theorem an_127 (x : Nat) (h : x < 256) : nI x &&& 127 = nI (x % 128) := (by decide +kernel : ∀ x : Fin 256, nI x.1 &&& 127 = nI (x.1 % 128)) ⟨x, h⟩
def rd (S : List Int32) (a : Nat) : Option Nat × Nat :=
  if S.length ≤ a then (none, a) else
  if byv S a < 128 then (some (byv S a % 128), a + 1) else
  if S.length ≤ a + 1 then (none, a + 1) else
  if byv S (a + 1) < 128 then (some (byv S a % 128 + byv S (a + 1) % 128 * 128), a + 1 + 1) else
  if S.length ≤ a + 1 + 1 then (none, a + 1 + 1) else
  if byv S (a + 1 + 1) < 128 then (some (byv S a % 128 + byv S (a + 1) % 128 * 128 + byv S (a + 1 + 1) % 128 * 16384), a + 1 + 1 + 1) else (none, a + 1 + 1 + 1)
def vI : Option Nat → Int32
  | some v => nI v
  | none => -1
def oB : Option Nat → Int32
  | some _ => 1
  | none => 0
theorem rd_le {S : List Int32} {a : Nat} (h : a ≤ S.length) : (rd S a).2 ≤ S.length := by
  unfold rd
  repeat' split
  all_goals first | exact h | (simp only; omega)
theorem rd_ge (S : List Int32) (a : Nat) : a ≤ (rd S a).2 := by
  unfold rd
  repeat' split
  all_goals first | exact Nat.le_refl _ | (simp only; omega)
theorem rd_some {S : List Int32} {a v : Nat} (h : (rd S a).1 = some v) : v < 2097152 ∧ a < (rd S a).2 := by
  unfold rd at h ⊢
  have h1 := byv_lt S a
  have h2 := byv_lt S (a + 1)
  have h3 := byv_lt S (a + 1 + 1)
  repeat' split
  all_goals simp_all
  all_goals omega
def sx (S : List Int32) (b0 : Nat) (fr : Nat → Int32) : Prop := (∀ j, j < S.length → fr (b0 + j) = S.getD j 0) ∧ (∀ b ∈ S, isB b) ∧ b0 + S.length ≤ 16384
theorem ld_sx {S : List Int32} {b0 T t : Nat} {fr : Nat → Int32} (h : sx S b0 fr) (e : T = b0 + t) (ht : t < S.length) : fr (Int32.toNatClampNeg (nI T)) &&& 255 = nI (byv S t) := by
  have := h.2.2
  rw [nI_clamp (by omega), e, h.1 t ht]
  exact byv_eq S t
theorem x_subLe {n a b : Nat} (hn : n < 2 ^ 30) (ha : a < 2 ^ 30) (hb : b < 2 ^ 30) : nI n ≤ nI a - nI b ↔ n + b ≤ a := by
  rw [Int32.le_iff_toInt_le, pk_sub_toInt ha hb, nI_toInt (by omega)]
  omega
theorem nar_bI (b : Bool) : narrow .boolean (.int (bI b)) = .int (bI b) := by
  cases b <;> rfl
theorem take_drop_1 {S : List Int32} {a j : Nat} (h : a + j < S.length) : (S.drop a).take (j + 1) = (S.drop a).take j ++ [S.getD (a + j) 0] := by
  rw [take_snoc (by rw [List.length_drop]; omega), getD_drop]
theorem y_mk {T S : List Int32} {n a j q : Nat} {x : Int32} {fp g : Nat → Int32} (h : tx S n fp) (hn : n < 2 ^ 31) (hj : a + j < n) (e : x = fp (Int32.toNatClampNeg (nI (a + j)))) (hu : tx (T ++ (S.drop a).take j ++ [nbb x]) q g) : tx (T ++ (S.drop a).take (j + 1)) q g := by
  rw [nI_clamp (by omega)] at e
  rw [e, show nbb (fp (a + j)) = fp (a + j) from tx_inB h hj, tx_at h hj] at hu
  rw [take_drop_1 (by rw [h.1]; exact hj), ← List.append_assoc]
  exact hu
theorem y_cp {T B : List Int32} {n a j q : Nat} {fp g : Nat → Int32} (h : tx B n fp) (hn : n < 2 ^ 31) (hj : a + j < n) (hu : tx (T ++ (B.drop a).take j ++ [nbb (bAt B (nI (a + j)))]) q g) : tx (T ++ (B.drop a).take (j + 1)) q g := by
  rw [nbb_at h hj (by omega) hn] at hu
  rw [take_drop_1 (by rw [h.1]; exact hj), ← List.append_assoc]
  exact hu
def cmd (S B T : List Int32) (a : Nat) : Option (List Int32 × Nat) :=
  match (rd S a).1 with
  | none => none
  | some h =>
    if h / 2 = 0 ∨ 256 < T.length + h / 2 then none else
    if h % 2 = 0 then (if S.length < (rd S a).2 + h / 2 then none else some (T ++ (S.drop (rd S a).2).take (h / 2), (rd S a).2 + h / 2))
    else match (rd S (rd S a).2).1 with
      | none => none
      | some p => if B.length < p + h / 2 then none else some (T ++ (B.drop p).take (h / 2), (rd S (rd S a).2).2)
theorem cmd_0 {S B T : List Int32} {a : Nat} (h : (rd S a).1 = none) : cmd S B T a = none := by
  rw [cmd, h]
theorem cmd_1 {S B T : List Int32} {a v : Nat} (h : (rd S a).1 = some v) (h1 : v / 2 = 0 ∨ 256 < T.length + v / 2) : cmd S B T a = none := by
  rw [cmd, h]
  exact if_pos h1
theorem cmd_2 {S B T : List Int32} {a v : Nat} (h : (rd S a).1 = some v) (h1 : ¬ (v / 2 = 0 ∨ 256 < T.length + v / 2)) (h2 : v % 2 = 0) : cmd S B T a = if S.length < (rd S a).2 + v / 2 then none else some (T ++ (S.drop (rd S a).2).take (v / 2), (rd S a).2 + v / 2) := by
  rw [cmd, h]
  exact (if_neg h1).trans (if_pos h2)
theorem cmd_3 {S B T : List Int32} {a v : Nat} (h : (rd S a).1 = some v) (h1 : ¬ (v / 2 = 0 ∨ 256 < T.length + v / 2)) (h2 : ¬ v % 2 = 0) (h3 : (rd S (rd S a).2).1 = none) : cmd S B T a = none := by
  rw [cmd, h]
  refine (if_neg h1).trans ((if_neg h2).trans ?_)
  rw [h3]
theorem cmd_4 {S B T : List Int32} {a v p : Nat} (h : (rd S a).1 = some v) (h1 : ¬ (v / 2 = 0 ∨ 256 < T.length + v / 2)) (h2 : ¬ v % 2 = 0) (h3 : (rd S (rd S a).2).1 = some p) : cmd S B T a = if B.length < p + v / 2 then none else some (T ++ (B.drop p).take (v / 2), (rd S (rd S a).2).2) := by
  rw [cmd, h]
  refine (if_neg h1).trans ((if_neg h2).trans ?_)
  rw [h3]
def cpc (S B T : List Int32) (a n : Nat) : Option (List Int32 × Nat) :=
  match (rd S a).1 with
  | none => none
  | some p => if B.length < p + n then none else some (T ++ (B.drop p).take n, (rd S a).2)
theorem cpc_0 {S B T : List Int32} {a n : Nat} (h : (rd S a).1 = none) : cpc S B T a n = none := by
  rw [cpc, h]
theorem cpc_1 {S B T : List Int32} {a n p : Nat} (h : (rd S a).1 = some p) (h1 : B.length < p + n) : cpc S B T a n = none := by
  rw [cpc, h]
  exact if_pos h1
theorem cpc_2 {S B T : List Int32} {a n p : Nat} (h : (rd S a).1 = some p) (h1 : ¬ B.length < p + n) : cpc S B T a n = some (T ++ (B.drop p).take n, (rd S a).2) := by
  rw [cpc, h]
  exact if_neg h1
theorem cmd_5 {S B T : List Int32} {a v : Nat} (h : (rd S a).1 = some v) (h1 : ¬ (v / 2 = 0 ∨ 256 < T.length + v / 2)) (h2 : ¬ v % 2 = 0) : cmd S B T a = cpc S B T (rd S a).2 (v / 2) := by
  rw [cmd, h]
  exact (if_neg h1).trans (if_neg h2)
def cmR (x : Option (List Int32 × Nat)) (T2 : List Int32) (a2 : Nat) : Prop := ∀ y, x = some y → T2 = y.1 ∧ a2 = y.2
theorem cmR_n {x : Option (List Int32 × Nat)} {T2 : List Int32} {a2 : Nat} (h : x = none) : cmR x T2 a2 := fun y e => by rw [h] at e; cases e
theorem cmR_s {x : Option (List Int32 × Nat)} {T2 : List Int32} {a2 : Nat} (h : x = some (T2, a2)) : cmR x T2 a2 := fun y e => by rw [h] at e; cases e; exact ⟨rfl, rfl⟩
theorem bI_ne {P : Prop} [Decidable P] (h : ¬ bI (decide P) = 0) : P := by
  rcases Decidable.em P with z | z
  · exact z
  · exact absurd (by rw [decide_eq_false z]; rfl) h
theorem bI_e0 {P : Prop} [Decidable P] (h : bI (decide P) = 0) : ¬ P := by
  intro z
  rw [decide_eq_true z] at h
  exact absurd h (by decide)
theorem cmd_lt {S B T : List Int32} {a : Nat} {y : List Int32 × Nat} (ha : a ≤ S.length) (h : cmd S B T a = some y) : a < y.2 ∧ y.2 ≤ S.length := by
  unfold cmd at h
  split at h
  · cases h
  · next v hv =>
    have h1 := (rd_some hv).2
    have h2 := rd_le ha
    have h3 := rd_ge S (rd S a).2
    have h4 := rd_le h2
    split at h
    · cases h
    · split at h
      · split at h
        · cases h
        · cases h
          refine ⟨?_, ?_⟩ <;> simp only <;> omega
      · split at h
        · cases h
        · split at h
          · cases h
          · cases h
            refine ⟨?_, ?_⟩ <;> simp only <;> omega
theorem y_sx {T S : List Int32} {b0 A a k j : Nat} {x : Int32} {fr f : Nat → Int32} (h : sx S b0 fr) (e0 : A = b0 + a) (hj : a + j < S.length) (hk : k + j < 256) (e : x = fr (Int32.toNatClampNeg (nI (A + j)))) (hu : tx (T ++ (S.drop a).take j) (k + j) f) : tx (T ++ (S.drop a).take (j + 1)) (k + (j + 1)) (upd f (k + j) (nbb x)) := by
  have h2 := h.2.2
  rw [nI_clamp (by omega), e0, Nat.add_assoc, h.1 _ hj] at e
  have hB : isB x := by
    rw [e, List.getD_eq_getElem?_getD, List.getElem?_eq_getElem hj]
    exact h.2.1 _ (List.getElem_mem _)
  rw [take_drop_1 hj, ← List.append_assoc, show nbb x = x from hB]
  rw [e] at hB ⊢
  exact tx_push hu hB
theorem y_bx {T B : List Int32} {n a k j : Nat} {x : Int32} {fb f : Nat → Int32} (h : tx B n fb) (hn : n < 2 ^ 31) (hj : a + j < n) (hk : k + j < 256) (e : x = fb (Int32.toNatClampNeg (nI (a + j)))) (hu : tx (T ++ (B.drop a).take j) (k + j) f) : tx (T ++ (B.drop a).take (j + 1)) (k + (j + 1)) (upd f (k + j) (nbb x)) := by
  rw [nI_clamp (by omega)] at e
  have hB : isB x := by rw [e]; exact tx_inB h hj
  rw [take_drop_1 (by rw [h.1]; exact hj), ← List.append_assoc, show nbb x = x from hB, ← tx_at h hj, ← e]
  exact tx_push hu hB
