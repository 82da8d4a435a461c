/-- byte a of a piece, as a number -/
def byv (S : List Int32) (a : Nat) : Nat := (S.getD a 0 &&& 255).toNatClampNeg
theorem and255 (b : Int32) : b &&& 255 = nI (b &&& 255).toNatClampNeg ∧ (b &&& 255).toNatClampNeg < 256 := by
  have h : ∀ x : BitVec 32, (Int32.ofBitVec (x &&& 255#32)) = nI (Int32.ofBitVec (x &&& 255#32)).toNatClampNeg ∧ (Int32.ofBitVec (x &&& 255#32)).toNatClampNeg < 256 := by
    intro x
    have h1 : x &&& 255#32 = BitVec.ofNat 32 (x.toNat % 256) := by
      apply BitVec.eq_of_toNat_eq
      rw [BitVec.toNat_and, BitVec.toNat_ofNat, BitVec.toNat_ofNat]
      have h2 : x.toNat &&& 255 = x.toNat % 256 := Nat.and_two_pow_sub_one_eq_mod x.toNat 8
      rw [show 255 % 2 ^ 32 = 255 from rfl, h2]
      omega
    rw [h1]
    have h3 : x.toNat % 256 < 256 := Nat.mod_lt _ (by decide)
    generalize x.toNat % 256 = y at h3
    exact (by decide +kernel : ∀ y : Fin 256, Int32.ofBitVec (BitVec.ofNat 32 y.1) = nI (Int32.ofBitVec (BitVec.ofNat 32 y.1)).toNatClampNeg ∧ (Int32.ofBitVec (BitVec.ofNat 32 y.1)).toNatClampNeg < 256) ⟨y, h3⟩
  exact h b.toBitVec
theorem byv_lt (S : List Int32) (a : Nat) : byv S a < 256 := (and255 _).2
theorem byv_eq (S : List Int32) (a : Nat) : S.getD a 0 &&& 255 = nI (byv S a) := (and255 _).1
theorem ld_byv {S : List Int32} {n T : Nat} {f : Nat → Int32} (h : tx S n f) (hT : T < n) (hn : n < 2 ^ 31) : f (Int32.toNatClampNeg (nI T)) &&& 255 = nI (byv S T) := by
  rw [nI_clamp (by omega), tx_at h hT]
  exact byv_eq S T
theorem sh_0 (x : Nat) (h : x < 128) : nI x <<< ((0 : Int32) &&& 31) = nI x := (by decide +kernel : ∀ x : Fin 128, nI x.1 <<< ((0 : Int32) &&& 31) = nI x.1) ⟨x, h⟩
theorem sh_7 (x : Nat) (h : x < 128) : nI x <<< ((7 : Int32) &&& 31) = nI (x * 128) := (by decide +kernel : ∀ x : Fin 128, nI x.1 <<< ((7 : Int32) &&& 31) = nI (x.1 * 128)) ⟨x, h⟩
theorem sh_14 (x : Nat) (h : x < 128) : nI x <<< ((14 : Int32) &&& 31) = nI (x * 16384) := (by decide +kernel : ∀ x : Fin 128, nI x.1 <<< ((14 : Int32) &&& 31) = nI (x.1 * 16384)) ⟨x, h⟩
theorem an_127 (x : Nat) (h : x < 256) : nI x &&& 127 = nI (x % 128) := (by decide +kernel : ∀ x : Fin 256, nI x.1 &&& 127 = nI (x.1 % 128)) ⟨x, h⟩
/-- the number that stands in a piece from place a on, and the place behind what was read -/
def rd (S : List Int32) (a : Nat) : Option Nat × Nat :=
  if S.length ≤ a then (none, a) else
  if byv S a < 128 then (some (byv S a % 128), a + 1) else
  if S.length ≤ a + 1 then (none, a + 1) else
  if byv S (a + 1) < 128 then (some (byv S a % 128 + byv S (a + 1) % 128 * 128), a + 1 + 1) else
  if S.length ≤ a + 1 + 1 then (none, a + 1 + 1) else
  if byv S (a + 1 + 1) < 128 then (some (byv S a % 128 + byv S (a + 1) % 128 * 128 + byv S (a + 1 + 1) % 128 * 16384), a + 1 + 1 + 1) else (none, a + 1 + 1 + 1)
def vI : Option Nat → Int32
  | some v => nI v
  | none => -1
def oB : Option Nat → Int32
  | some _ => 1
  | none => 0
theorem rd_le {S : List Int32} {a : Nat} (h : a ≤ S.length) : (rd S a).2 ≤ S.length := by
  unfold rd
  repeat' split
  all_goals first | exact h | (simp only; omega)
theorem rd_ge (S : List Int32) (a : Nat) : a ≤ (rd S a).2 := by
  unfold rd
  repeat' split
  all_goals first | exact Nat.le_refl _ | (simp only; omega)
theorem rd_some {S : List Int32} {a v : Nat} (h : (rd S a).1 = some v) : v < 2097152 ∧ a < (rd S a).2 := by
  unfold rd at h ⊢
  have h1 := byv_lt S a
  have h2 := byv_lt S (a + 1)
  have h3 := byv_lt S (a + 1 + 1)
  repeat' split
  all_goals simp_all
  all_goals omega
/-- a row of many bytes holds the piece S from place b0 on -/
def sx (S : List Int32) (b0 : Nat) (fr : Nat → Int32) : Prop := (∀ j, j < S.length → fr (b0 + j) = S.getD j 0) ∧ (∀ b ∈ S, isB b) ∧ b0 + S.length ≤ 16384
theorem ld_sx {S : List Int32} {b0 T t : Nat} {fr : Nat → Int32} (h : sx S b0 fr) (e : T = b0 + t) (ht : t < S.length) : fr (Int32.toNatClampNeg (nI T)) &&& 255 = nI (byv S t) := by
  have := h.2.2
  rw [nI_clamp (by omega), e, h.1 t ht]
  exact byv_eq S t
