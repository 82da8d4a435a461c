abbrev MY : Type := (Nat) × (Nat) × (Nat) × (Nat) × (Nat) × (Nat) × (Nat) × (Nat) × (Nat) × (Nat) × (Nat) × (Nat) × (Nat) × (Int32) × (Int32) × (Int32) × (Int32) × (Int32) × (Int32) × (Int32) × (Int32) × (Int32) × (Int32) × (Int32) × (Int32) × (Int32) × (Int32) × (Nat → Int32) × (Nat → Int32) × (Nat → Int32) × (Nat → Int32) × (Nat → Int32) × (Nat → Int32) × (Nat → Int32) × (Nat → Int32) × (Nat → Int32) × (Nat → Int32) × (Nat → Int32) × (Nat → Int32) × (Nat → Int32)
abbrev MY.hbu (x : MY) : Nat := x.1
abbrev MY.hgo (x : MY) : Nat := x.2.1
abbrev MY.hfi (x : MY) : Nat := x.2.2.1
abbrev MY.hma (x : MY) : Nat := x.2.2.2.1
abbrev MY.hln (x : MY) : Nat := x.2.2.2.2.1
abbrev MY.hau (x : MY) : Nat := x.2.2.2.2.2.1
abbrev MY.hsu (x : MY) : Nat := x.2.2.2.2.2.2.1
abbrev MY.hrow (x : MY) : Nat := x.2.2.2.2.2.2.2.1
abbrev MY.hmade (x : MY) : Nat := x.2.2.2.2.2.2.2.2.1
abbrev MY.hbase (x : MY) : Nat := x.2.2.2.2.2.2.2.2.2.1
abbrev MY.htx9 (x : MY) : Nat := x.2.2.2.2.2.2.2.2.2.2.1
abbrev MY.hot (x : MY) : Nat := x.2.2.2.2.2.2.2.2.2.2.2.1
abbrev MY.hpc (x : MY) : Nat := x.2.2.2.2.2.2.2.2.2.2.2.2.1
abbrev MY.z_thrown (x : MY) : Int32 := x.2.2.2.2.2.2.2.2.2.2.2.2.2.1
abbrev MY.z_down (x : MY) : Int32 := x.2.2.2.2.2.2.2.2.2.2.2.2.2.2.1
abbrev MY.z_lasts (x : MY) : Int32 := x.2.2.2.2.2.2.2.2.2.2.2.2.2.2.2.1
abbrev MY.z_size (x : MY) : Int32 := x.2.2.2.2.2.2.2.2.2.2.2.2.2.2.2.2.1
abbrev MY.z_documents (x : MY) : Int32 := x.2.2.2.2.2.2.2.2.2.2.2.2.2.2.2.2.2.1
abbrev MY.z_madeSize (x : MY) : Int32 := x.2.2.2.2.2.2.2.2.2.2.2.2.2.2.2.2.2.2.1
abbrev MY.z_baseSize (x : MY) : Int32 := x.2.2.2.2.2.2.2.2.2.2.2.2.2.2.2.2.2.2.2.1
abbrev MY.z_textSize (x : MY) : Int32 := x.2.2.2.2.2.2.2.2.2.2.2.2.2.2.2.2.2.2.2.2.1
abbrev MY.z_textSteps (x : MY) : Int32 := x.2.2.2.2.2.2.2.2.2.2.2.2.2.2.2.2.2.2.2.2.2.1
abbrev MY.z_otherSize (x : MY) : Int32 := x.2.2.2.2.2.2.2.2.2.2.2.2.2.2.2.2.2.2.2.2.2.2.1
abbrev MY.z_pieceSize (x : MY) : Int32 := x.2.2.2.2.2.2.2.2.2.2.2.2.2.2.2.2.2.2.2.2.2.2.2.1
abbrev MY.z_at (x : MY) : Int32 := x.2.2.2.2.2.2.2.2.2.2.2.2.2.2.2.2.2.2.2.2.2.2.2.2.1
abbrev MY.z_end (x : MY) : Int32 := x.2.2.2.2.2.2.2.2.2.2.2.2.2.2.2.2.2.2.2.2.2.2.2.2.2.1
abbrev MY.z_value (x : MY) : Int32 := x.2.2.2.2.2.2.2.2.2.2.2.2.2.2.2.2.2.2.2.2.2.2.2.2.2.2.1
abbrev MY.fbu (x : MY) : Nat → Int32 := x.2.2.2.2.2.2.2.2.2.2.2.2.2.2.2.2.2.2.2.2.2.2.2.2.2.2.2.1
abbrev MY.fg (x : MY) : Nat → Int32 := x.2.2.2.2.2.2.2.2.2.2.2.2.2.2.2.2.2.2.2.2.2.2.2.2.2.2.2.2.1
abbrev MY.ff (x : MY) : Nat → Int32 := x.2.2.2.2.2.2.2.2.2.2.2.2.2.2.2.2.2.2.2.2.2.2.2.2.2.2.2.2.2.1
abbrev MY.fm (x : MY) : Nat → Int32 := x.2.2.2.2.2.2.2.2.2.2.2.2.2.2.2.2.2.2.2.2.2.2.2.2.2.2.2.2.2.2.1
abbrev MY.fl (x : MY) : Nat → Int32 := x.2.2.2.2.2.2.2.2.2.2.2.2.2.2.2.2.2.2.2.2.2.2.2.2.2.2.2.2.2.2.2.1
abbrev MY.fa (x : MY) : Nat → Int32 := x.2.2.2.2.2.2.2.2.2.2.2.2.2.2.2.2.2.2.2.2.2.2.2.2.2.2.2.2.2.2.2.2.1
abbrev MY.fs (x : MY) : Nat → Int32 := x.2.2.2.2.2.2.2.2.2.2.2.2.2.2.2.2.2.2.2.2.2.2.2.2.2.2.2.2.2.2.2.2.2.1
abbrev MY.fr (x : MY) : Nat → Int32 := x.2.2.2.2.2.2.2.2.2.2.2.2.2.2.2.2.2.2.2.2.2.2.2.2.2.2.2.2.2.2.2.2.2.2.1
abbrev MY.f (x : MY) : Nat → Int32 := x.2.2.2.2.2.2.2.2.2.2.2.2.2.2.2.2.2.2.2.2.2.2.2.2.2.2.2.2.2.2.2.2.2.2.2.1
abbrev MY.fb (x : MY) : Nat → Int32 := x.2.2.2.2.2.2.2.2.2.2.2.2.2.2.2.2.2.2.2.2.2.2.2.2.2.2.2.2.2.2.2.2.2.2.2.2.1
abbrev MY.ft (x : MY) : Nat → Int32 := x.2.2.2.2.2.2.2.2.2.2.2.2.2.2.2.2.2.2.2.2.2.2.2.2.2.2.2.2.2.2.2.2.2.2.2.2.2.1
abbrev MY.fo (x : MY) : Nat → Int32 := x.2.2.2.2.2.2.2.2.2.2.2.2.2.2.2.2.2.2.2.2.2.2.2.2.2.2.2.2.2.2.2.2.2.2.2.2.2.2.1
abbrev MY.fp (x : MY) : Nat → Int32 := x.2.2.2.2.2.2.2.2.2.2.2.2.2.2.2.2.2.2.2.2.2.2.2.2.2.2.2.2.2.2.2.2.2.2.2.2.2.2.2

def mW (h0 : Nat) (cB cI cL cZ : ClassId) (y : MY) : va_W := [(h0, .inr (7, [.int y.z_thrown, .int y.z_down, .int y.z_lasts, .ref y.hbu, .int y.z_size, .int y.z_documents, .ref y.hgo, .ref y.hfi, .ref y.hma, .ref y.hln, .ref y.hau, .ref y.hsu, .ref y.hrow, .ref y.hmade, .int y.z_madeSize, .ref y.hbase, .int y.z_baseSize, .ref y.htx9, .int y.z_textSize, .int y.z_textSteps, .ref y.hot, .int y.z_otherSize, .ref y.hpc, .int y.z_pieceSize, .int y.z_at, .int y.z_end, .int y.z_value])), (y.hbu, .inl (cB, 256, .inl (y.fbu))), (y.hgo, .inl (cZ, 8, .inl (y.fg))), (y.hfi, .inl (cI, 8, .inl (y.ff))), (y.hma, .inl (cI, 8, .inl (y.fm))), (y.hln, .inl (cL, 512, .inl (y.fl))), (y.hau, .inl (cI, 512, .inl (y.fa))), (y.hsu, .inl (cI, 512, .inl (y.fs))), (y.hrow, .inl (cB, 16384, .inl (y.fr))), (y.hmade, .inl (cB, 256, .inl (y.f))), (y.hbase, .inl (cB, 256, .inl (y.fb))), (y.htx9, .inl (cB, 256, .inl (y.ft))), (y.hot, .inl (cB, 256, .inl (y.fo))), (y.hpc, .inl (cB, 600, .inl (y.fp)))]
abbrev mT (cB cI cL cZ : ClassId) : List (ClassId × FieldType) := [(cB, .byte), (cI, .int), (cL, .short), (cZ, .boolean)]
def pqS (ds : Nat → Option Dm) : Nat → Option (List Int32) := fun q => match ds (q / 64) with
  | none => none
  | some d => dmP d (q % 64)
def mOk (σ : Sg) (y : MY) : Prop := (y.z_down = bI σ.down) ∧ (y.z_lasts = vI σ.go) ∧ (y.z_size = nI σ.buf.length) ∧ (tx σ.buf σ.buf.length y.fbu) ∧ (y.z_documents = nI σ.nd) ∧ (∀ i, i < 8 → ((∃ d, σ.ds i = some d) → y.fg i = 0) ∧ (i < σ.nd → σ.ds i = none → ¬ y.fg i = 0) ∧ (σ.nd ≤ i → y.fg i = 0)) ∧ (∀ i, i < 8 → (∀ d, σ.ds i = some d → y.ff i = nI d.first ∧ y.fm i = nI d.count) ∧ (σ.nd ≤ i → y.ff i = 0 ∧ y.fm i = 0)) ∧ (∀ j, j < 512 → y.fl j = vI (lnq (pqS σ.ds) j)) ∧ (rowOk (pqS σ.ds) y.fr) ∧ (∀ i j d r, i < 8 → j < 64 → σ.ds i = some d → d.rv j = some r → y.fa (64 * i + j) = r.au ∧ y.fs (64 * i + j) = r.sm) ∧ ((y.z_textSize = nI σ.fet.length ∧ tx σ.fet σ.fet.length y.ft) ∨ (y.z_textSize = (-1) ∧ σ.fet = [])) ∧ (y.z_textSteps = σ.stp)
theorem mOk.dw {σ : Sg} {y : MY} (h : mOk σ y) : y.z_down = bI σ.down := h.1
theorem mOk.la {σ : Sg} {y : MY} (h : mOk σ y) : y.z_lasts = vI σ.go := h.2.1
theorem mOk.sz {σ : Sg} {y : MY} (h : mOk σ y) : y.z_size = nI σ.buf.length := h.2.2.1
theorem mOk.bf {σ : Sg} {y : MY} (h : mOk σ y) : tx σ.buf σ.buf.length y.fbu := h.2.2.2.1
theorem mOk.nd {σ : Sg} {y : MY} (h : mOk σ y) : y.z_documents = nI σ.nd := h.2.2.2.2.1
theorem mOk.gn {σ : Sg} {y : MY} (h : mOk σ y) : ∀ i, i < 8 → ((∃ d, σ.ds i = some d) → y.fg i = 0) ∧ (i < σ.nd → σ.ds i = none → ¬ y.fg i = 0) ∧ (σ.nd ≤ i → y.fg i = 0) := h.2.2.2.2.2.1
theorem mOk.fm {σ : Sg} {y : MY} (h : mOk σ y) : ∀ i, i < 8 → (∀ d, σ.ds i = some d → y.ff i = nI d.first ∧ y.fm i = nI d.count) ∧ (σ.nd ≤ i → y.ff i = 0 ∧ y.fm i = 0) := h.2.2.2.2.2.2.1
theorem mOk.ln {σ : Sg} {y : MY} (h : mOk σ y) : ∀ j, j < 512 → y.fl j = vI (lnq (pqS σ.ds) j) := h.2.2.2.2.2.2.2.1
theorem mOk.rw {σ : Sg} {y : MY} (h : mOk σ y) : rowOk (pqS σ.ds) y.fr := h.2.2.2.2.2.2.2.2.1
theorem mOk.au {σ : Sg} {y : MY} (h : mOk σ y) : ∀ i j d r, i < 8 → j < 64 → σ.ds i = some d → d.rv j = some r → y.fa (64 * i + j) = r.au ∧ y.fs (64 * i + j) = r.sm := h.2.2.2.2.2.2.2.2.2.1
theorem mOk.tq {σ : Sg} {y : MY} (h : mOk σ y) : (y.z_textSize = nI σ.fet.length ∧ tx σ.fet σ.fet.length y.ft) ∨ (y.z_textSize = (-1) ∧ σ.fet = []) := h.2.2.2.2.2.2.2.2.2.2.1
theorem mOk.st {σ : Sg} {y : MY} (h : mOk σ y) : y.z_textSteps = σ.stp := h.2.2.2.2.2.2.2.2.2.2.2
theorem mOk.mk {σ : Sg} {y : MY} (h0 : y.z_down = bI σ.down) (h1 : y.z_lasts = vI σ.go) (h2 : y.z_size = nI σ.buf.length) (h3 : tx σ.buf σ.buf.length y.fbu) (h4 : y.z_documents = nI σ.nd) (h5 : ∀ i, i < 8 → ((∃ d, σ.ds i = some d) → y.fg i = 0) ∧ (i < σ.nd → σ.ds i = none → ¬ y.fg i = 0) ∧ (σ.nd ≤ i → y.fg i = 0)) (h6 : ∀ i, i < 8 → (∀ d, σ.ds i = some d → y.ff i = nI d.first ∧ y.fm i = nI d.count) ∧ (σ.nd ≤ i → y.ff i = 0 ∧ y.fm i = 0)) (h7 : ∀ j, j < 512 → y.fl j = vI (lnq (pqS σ.ds) j)) (h8 : rowOk (pqS σ.ds) y.fr) (h9 : ∀ i j d r, i < 8 → j < 64 → σ.ds i = some d → d.rv j = some r → y.fa (64 * i + j) = r.au ∧ y.fs (64 * i + j) = r.sm) (h10 : (y.z_textSize = nI σ.fet.length ∧ tx σ.fet σ.fet.length y.ft) ∨ (y.z_textSize = (-1) ∧ σ.fet = [])) (h11 : y.z_textSteps = σ.stp) : mOk σ y := ⟨h0, h1, h2, h3, h4, h5, h6, h7, h8, h9, h10, h11⟩
theorem spend_none {σ : Sg} {n : Nat} (h : spend σ n = none) : ∃ w, σ.go = some w ∧ w < n := by
  unfold spend at h
  split at h
  · cases h
  · next w e =>
    split at h
    · next q => exact ⟨w, e, q⟩
    · cases h
theorem spend_some {σ τ : Sg} {n : Nat} (h : spend σ n = some τ) : τ = sgG σ (σ.go.map (· - n)) ∧ ∀ w, σ.go = some w → n ≤ w := by
  unfold spend at h
  split at h
  · next e =>
    cases h
    refine ⟨?_, fun w q => by rw [e] at q; cases q⟩
    rw [e]
    obtain ⟨_, _, _⟩ := σ
    cases e
    rfl
  · next w e =>
    split at h
    · cases h
    · next q => cases h; exact ⟨by rw [e]; rfl, fun w' q' => by rw [e] at q'; cases q'; omega⟩
theorem en_sz {L : List Int32} {n : Int32} (h1 : ¬ n < 0) (h2 : n ≤ nI L.length) (hl : L.length ≤ 256) : n = nI (L.take n.toNatClampNeg).length := by
  obtain ⟨j, hj, rfl⟩ := nI_of h1
  rw [nI_clamp hj, List.length_take]
  have := (nI_leI hj (by omega)).mp h2
  rw [Nat.min_eq_left this]
theorem en_bf {L : List Int32} {n : Int32} {f : Nat → Int32} (h1 : ¬ n < 0) (h2 : n ≤ nI L.length) (hl : L.length ≤ 256) (h : tx L L.length f) : tx (L.take n.toNatClampNeg) (L.take n.toNatClampNeg).length f := by
  obtain ⟨j, hj, rfl⟩ := nI_of h1
  have h3 := (nI_leI hj (by omega)).mp h2
  rw [nI_clamp hj]
  have := tx_take h h3
  rw [this.1]
  exact this
theorem ou_n {F : List Int32} {ts i : Int32} {f : Nat → Int32} (h : (ts = nI F.length ∧ tx F F.length f) ∨ (ts = (-1) ∧ F = [])) (c : i < 0 ∨ ts ≤ i) : (-1 : Int32) = bAt F i := by
  rw [bAt, if_pos]
  rcases c with c | c
  · exact Or.inl c
  · rcases h with ⟨h, -⟩ | ⟨h, rfl⟩
    · rw [h] at c; exact Or.inr c
    · rw [h] at c
      by_cases z : i < 0
      · exact Or.inl z
      · exact Or.inr (Int32.not_lt.mp z)
theorem ou_lt {F : List Int32} {ts i : Int32} {f : Nat → Int32} (h : (ts = nI F.length ∧ tx F F.length f) ∨ (ts = (-1) ∧ F = [])) (h1 : ¬ i < 0) (h2 : ¬ ts ≤ i) : ts = nI F.length ∧ tx F F.length f := by
  rcases h with h | ⟨h, -⟩
  · exact h
  · rw [h] at h2
    exact absurd (x_m1 h1 h2) id
theorem ou_in {F : List Int32} {ts i : Int32} {f : Nat → Int32} (h : (ts = nI F.length ∧ tx F F.length f) ∨ (ts = (-1) ∧ F = [])) (hl : F.length ≤ 256) (h1 : ¬ i < 0) (h2 : ¬ ts ≤ i) : vp_in i 256 := by
  have := ou_lt h h1 h2
  rw [this.1] at h2
  exact x_inK hl (by decide) h1 h2
theorem ou_s {F : List Int32} {ts i : Int32} {f : Nat → Int32} (h : (ts = nI F.length ∧ tx F F.length f) ∨ (ts = (-1) ∧ F = [])) (h1 : ¬ i < 0) (h2 : ¬ ts ≤ i) : f i.toNatClampNeg &&& 255 = bAt F i := by
  have h3 := ou_lt h h1 h2
  rw [h3.1] at h2
  rw [bAt, if_neg (fun q => q.elim h1 h2), tx_at h3.2 (x_ltK h1 h2)]
theorem cu_la {n : Int32} (h : 0 ≤ n) : n = vI (some n.toNatClampNeg) := by
  obtain ⟨j, hj, rfl⟩ := nI_of (Int32.not_lt.mpr h)
  rw [nI_clamp hj]
  rfl
theorem pqS_at {ds : Nat → Option Dm} {i j : Nat} (hj : j < 64) : pqS ds (64 * i + j) = match ds i with
  | none => none
  | some d => dmP d j := by
  unfold pqS
  rw [show (64 * i + j) / 64 = i by omega, show (64 * i + j) % 64 = j by omega]
theorem pqS_s {ds : Nat → Option Dm} {i j : Nat} {d : Dm} (hj : j < 64) (h : ds i = some d) : pqS ds (64 * i + j) = dmP d j := by
  rw [pqS_at hj, h]
theorem pqS_n {ds : Nat → Option Dm} {i j : Nat} (hj : j < 64) (h : ds i = none) : pqS ds (64 * i + j) = none := by
  rw [pqS_at hj, h]
theorem agJ_congr {p q : Nat → Option (List Int32)} {r : Nat} (hr : r < 64) (h : ∀ j, j < 64 → p j = q j) : ∀ k, k ≤ 6 → agJ p r k = agJ q r k
  | 0, _ => by
    show stp6 p (some []) 0 = stp6 q (some []) 0
    unfold stp6
    rw [h 0 (by omega)]
  | k + 1, hk => by
    have hb := bt6_iff r k hr (by omega)
    have e : ∀ T, stp6 p T (hi6 (k + 1) r) = stp6 q T (hi6 (k + 1) r) := fun T => by
      unfold stp6
      rw [h (hi6 (k + 1) r) (by omega)]
    rw [agJ, agJ, agJ_congr hr h k (by omega), e]
theorem agn_congr {p q : Nat → Option (List Int32)} {r : Nat} (hr : r < 64) (h : ∀ j, j < 64 → p j = q j) : agn p r = agn q r := agJ_congr hr h 6 (Nat.le_refl _)
theorem agn_pq {ds : Nat → Option Dm} {i r : Nat} {d : Dm} (hr : r < 64) (h : ds i = some d) : agn (pqF (pqS ds) i) r = agn (dmP d) r := agn_congr hr (fun _ hj => pqS_s hj h)
theorem cbk_end {pc : Nat → Option (List Int32)} {n : Nat} (h : ∀ j, n ≤ j → pc j = none) : ∀ k, cbk pc (n + k) = cbk pc n
  | 0 => rfl
  | k + 1 => by rw [← Nat.add_assoc, cbk_n (h _ (by omega)), cbk_end h k]
theorem frb_64 {ds : Nat → Option Dm} {i : Nat} : ∀ k, k ≤ 64 → frb (lnq (pqS ds)) (64 * i + k) = frb (lnq (pqS ds)) (64 * i) + cbk (fun j => pqS ds (64 * i + j)) k
  | 0, _ => rfl
  | k + 1, hk => by
    rw [← Nat.add_assoc, frb, frb_64 k (by omega), cbk, Nat.add_assoc]
    congr 2
    unfold lnq
    cases pqS ds (64 * i + k) <;> rfl
theorem cbk_congr {p q : Nat → Option (List Int32)} : ∀ {n : Nat}, (∀ j, j < n → p j = q j) → cbk p n = cbk q n
  | 0, _ => rfl
  | n + 1, h => by rw [cbk, cbk, cbk_congr (fun j hj => h j (by omega)), h n (by omega)]
theorem frb_us {ds : Nat → Option Dm} (h : ∀ i d, ds i = some d → dmOk d) : ∀ i, frb (lnq (pqS ds)) (64 * i) = usd ds i
  | 0 => rfl
  | i + 1 => by
    rw [show 64 * (i + 1) = 64 * i + 64 by omega, frb_64 64 (Nat.le_refl _), frb_us h i, usd]
    congr 1
    cases e : ds i with
    | none =>
      rw [cbk_congr (q := fun _ => none) (fun j hj => pqS_n hj e)]
      have := cbk_end (pc := fun _ => none) (n := 0) (fun _ _ => rfl) 64
      rw [Nat.zero_add] at this
      exact this
    | some d =>
      obtain ⟨h1, h2, h3, h4⟩ := h i d e
      rw [cbk_congr (q := dmP d) (fun j hj => pqS_s hj e)]
      have := cbk_end (pc := dmP d) (n := d.count) (fun j hj => by
        unfold dmP
        cases q : d.rv j with
        | none => rfl
        | some r => have := (h4 j r q).1; omega) (64 - d.count)
      rw [show d.count + (64 - d.count) = 64 by omega] at this
      exact this
theorem fr_us {σ : Sg} (hs : sOk σ) : 512 - nI (frb (lnq (pqS σ.ds)) 512) = nI (512 - usd σ.ds 8) := by
  have h := frb_us (fun i d e => (hs.ds i d e).2) 8
  rw [show 512 = 64 * 8 from rfl, h]
  exact pk_sub hs.us
theorem mk_none {σ : Sg} (hs : sOk σ) : ∀ i, σ.nd ≤ i → σ.ds i = none := by
  intro i hi
  cases e : σ.ds i with
  | none => rfl
  | some d => have := (hs.ds i d e).1; omega
theorem mk_gn {σ : Sg} {fg : Nat → Int32} (h : ∀ i, i < 8 → ((∃ d, σ.ds i = some d) → fg i = 0) ∧ (i < σ.nd → σ.ds i = none → ¬ fg i = 0) ∧ (σ.nd ≤ i → fg i = 0)) : ∀ i, i < 8 → ((∃ d, va_up σ.ds σ.nd (some ⟨0, 0, fun _ => none⟩) i = some d) → fg i = 0) ∧ (i < σ.nd + 1 → va_up σ.ds σ.nd (some ⟨0, 0, fun _ => none⟩) i = none → ¬ fg i = 0) ∧ (σ.nd + 1 ≤ i → fg i = 0) := by
  intro i hi
  obtain ⟨h1, h2, h3⟩ := h i hi
  refine ⟨fun ⟨d, hd⟩ => ?_, fun q1 q2 => ?_, fun q => h3 (by omega)⟩
  · by_cases z : i = σ.nd
    · exact h3 (by omega)
    · rw [va_up_ne _ _ z] at hd
      exact h1 ⟨d, hd⟩
  · by_cases z : i = σ.nd
    · rw [z, va_up_self] at q2; cases q2
    · rw [va_up_ne _ _ z] at q2
      exact h2 (by omega) q2
theorem mk_fm {σ : Sg} {ff fm : Nat → Int32} (h : ∀ i, i < 8 → (∀ d, σ.ds i = some d → ff i = nI d.first ∧ fm i = nI d.count) ∧ (σ.nd ≤ i → ff i = 0 ∧ fm i = 0)) : ∀ i, i < 8 → (∀ d, va_up σ.ds σ.nd (some ⟨0, 0, fun _ => none⟩) i = some d → ff i = nI d.first ∧ fm i = nI d.count) ∧ (σ.nd + 1 ≤ i → ff i = 0 ∧ fm i = 0) := by
  intro i hi
  obtain ⟨h1, h2⟩ := h i hi
  refine ⟨fun d hd => ?_, fun q => h2 (by omega)⟩
  by_cases z : i = σ.nd
  · rw [z, va_up_self] at hd
    cases hd
    exact h2 (by omega)
  · rw [va_up_ne _ _ z] at hd
    exact h1 d hd
theorem pqS_mk {σ : Sg} (hs : sOk σ) : pqS (va_up σ.ds σ.nd (some ⟨0, 0, fun _ => none⟩)) = pqS σ.ds := by
  funext q
  unfold pqS
  by_cases z : q / 64 = σ.nd
  · rw [z, va_up_self, mk_none hs _ (Nat.le_refl _)]
    rfl
  · rw [va_up_ne _ _ z]
theorem mk_au {σ : Sg} {fa fs : Nat → Int32} (h : ∀ i j d r, i < 8 → j < 64 → σ.ds i = some d → d.rv j = some r → fa (64 * i + j) = r.au ∧ fs (64 * i + j) = r.sm) : ∀ i j d r, i < 8 → j < 64 → va_up σ.ds σ.nd (some ⟨0, 0, fun _ => none⟩) i = some d → d.rv j = some r → fa (64 * i + j) = r.au ∧ fs (64 * i + j) = r.sm := by
  intro i j d r hi hj hd hr
  by_cases z : i = σ.nd
  · rw [z, va_up_self] at hd
    cases hd
    cases hr
  · rw [va_up_ne _ _ z] at hd
    exact h i j d r hi hj hd hr
theorem ndd_iff (r f : Nat) : ∀ n, ndd r f n = true ↔ ∃ t, t < n ∧ wk (f + t) r = r
  | 0 => by
    constructor
    · intro h; cases h
    · rintro ⟨t, h, -⟩; omega
  | n + 1 => by
    rw [ndd, Bool.or_eq_true, ndd_iff r f n, decide_eq_true_eq]
    constructor
    · rintro (⟨t, h1, h2⟩ | h)
      · exact ⟨t, by omega, h2⟩
      · exact ⟨n, by omega, h⟩
    · rintro ⟨t, h1, h2⟩
      by_cases z : t = n
      · subst z; exact Or.inr h2
      · exact Or.inl ⟨t, by omega, h2⟩
theorem wk_und {j r k : Nat} (hk : k < 64) (h1 : j < r) (h2 : r ≤ k) (h : wk k j = j) : wk r j = j := by
  have H : ∀ k j : Fin 64, wk k.1 j.1 = j.1 → ∀ r : Fin 64, j.1 < r.1 → r.1 ≤ k.1 → wk r.1 j.1 = j.1 := by decide +kernel
  exact H ⟨k, hk⟩ ⟨j, by omega⟩ h ⟨r, by omega⟩ h1 h2
theorem pqS_up {ds : Nat → Option Dm} {i : Nat} {o : Option Dm} {q : Nat} : pqS (va_up ds i o) q = if q / 64 = i then (match o with | none => none | some d => dmP d (q % 64)) else pqS ds q := by
  unfold pqS
  by_cases z : q / 64 = i
  · rw [if_pos z, z, va_up_self]
  · rw [if_neg z, va_up_ne _ _ z]
theorem pqS_drop {ds : Nat → Option Dm} {i : Nat} : clr (pqS ds) i (fun _ => false) 64 = pqS (va_up ds i none) := by
  funext q
  rw [pqS_up, clr]
  by_cases z : q / 64 = i
  · rw [if_pos z, if_pos ⟨by omega, by omega, rfl⟩]
  · rw [if_neg z, if_neg (fun y => z (by omega))]
theorem pqS_trim {ds : Nat → Option Dm} {i r : Nat} {d : Dm} (h : ds i = some d) (hd : dmOk d) (hr : r < d.count) : clr (pqS ds) i (fun j => ndd j r (d.count - r)) 64 = pqS (va_up ds i (some ⟨r, d.count, cutA r d.rv 0⟩)) := by
  funext q
  rw [pqS_up, clr]
  by_cases z : q / 64 = i
  · obtain ⟨j, hj, rfl⟩ : ∃ j, j < 64 ∧ q = 64 * i + j := ⟨q % 64, by omega, by omega⟩
    rw [if_pos z, show (64 * i + j) % 64 = j by omega, show 64 * i + j - 64 * i = j by omega, pqS_s hj h]
    show _ = (cutA r d.rv 0 j).map Rv.S
    obtain ⟨h1, h2, h3, h4⟩ := hd
    unfold cutA
    by_cases a : ndd j r (d.count - r) = true
    · obtain ⟨t, ht, hw⟩ := (ndd_iff j r _).mp a
      rw [if_neg (fun y => by rw [a] at y; exact absurd y.2.2 (by decide)), if_neg (fun y => y.2.2 (wk_und (by omega) y.2.1 (by omega) hw))]
      rfl
    · have a' : ndd j r (d.count - r) = false := by simpa using a
      rw [if_pos ⟨by omega, by omega, a'⟩]
      have na : ∀ t, t < d.count - r → ¬ wk (r + t) j = j := fun t ht hw => a ((ndd_iff j r _).mpr ⟨t, ht, hw⟩)
      rcases Nat.lt_or_ge j r with y | y
      · rw [if_pos ⟨Nat.zero_le _, y, na 0 (by omega)⟩]; rfl
      · rcases Nat.lt_or_ge j d.count with x | x
        · have := na (j - r) (by omega)
          rw [show r + (j - r) = j by omega, wk_le (Nat.le_refl _)] at this
          exact absurd rfl this
        · rw [if_neg (by omega)]
          cases e : d.rv j with
          | none => rfl
          | some v => have := (h4 j v e).1; omega
  · rw [if_neg z, if_neg (fun y => z (by omega))]
theorem pqS_rv {ds : Nat → Option Dm} {i j : Nat} {d : Dm} {a b : Nat} {v : Rv} (h : ds i = some d) (hj : j < 64) : va_up (pqS ds) (64 * i + j) (some v.S) = pqS (va_up ds i (some ⟨a, b, va_up d.rv j (some v)⟩)) := by
  funext q
  rw [pqS_up]
  by_cases z : q / 64 = i
  · obtain ⟨k, hk, rfl⟩ : ∃ k, k < 64 ∧ q = 64 * i + k := ⟨q % 64, by omega, by omega⟩
    rw [if_pos z, show (64 * i + k) % 64 = k by omega]
    show _ = (va_up d.rv j (some v) k).map Rv.S
    by_cases y : k = j
    · subst y; rw [va_up_self, va_up_self]; rfl
    · rw [va_up_ne _ _ (by omega), va_up_ne _ _ y, pqS_s hk h]; rfl
  · rw [if_neg z, va_up_ne _ _ (by omega)]
theorem no_doc {σ : Sg} {fg : Nat → Int32} {a : Int32} (hn : σ.nd ≤ 8) (h : ∀ i, i < 8 → ((∃ d, σ.ds i = some d) → fg i = 0) ∧ (i < σ.nd → σ.ds i = none → ¬ fg i = 0) ∧ (σ.nd ≤ i → fg i = 0)) (hd : dGet σ.ds a = none) : a < 0 ∨ nI σ.nd ≤ a ∨ ¬ fg a.toNatClampNeg = 0 := by
  by_cases h1 : a < 0
  · exact Or.inl h1
  · by_cases h2 : nI σ.nd ≤ a
    · exact Or.inr (Or.inl h2)
    · refine Or.inr (Or.inr ?_)
      have h3 := x_ltK h1 h2
      refine (h _ (by omega)).2.1 h3 ?_
      rcases dGet_none hd with q | q | q
      · exact absurd q h1
      · obtain ⟨j, hj, rfl⟩ := nI_of h1
        rw [nI_clamp hj] at h3
        have := (nI_leI (by decide) hj).mp q
        omega
      · exact q
theorem up_gn {σ : Sg} {fg : Nat → Int32} {i : Nat} {d e : Dm} (hi : σ.ds i = some d) (h : ∀ i, i < 8 → ((∃ d, σ.ds i = some d) → fg i = 0) ∧ (i < σ.nd → σ.ds i = none → ¬ fg i = 0) ∧ (σ.nd ≤ i → fg i = 0)) : ∀ k, k < 8 → ((∃ d, va_up σ.ds i (some e) k = some d) → fg k = 0) ∧ (k < σ.nd → va_up σ.ds i (some e) k = none → ¬ fg k = 0) ∧ (σ.nd ≤ k → fg k = 0) := by
  intro k hk
  obtain ⟨h1, h2, h3⟩ := h k hk
  refine ⟨fun ⟨x, hx⟩ => ?_, fun q1 q2 => ?_, h3⟩
  · by_cases z : k = i
    · subst z; exact h1 ⟨d, hi⟩
    · rw [va_up_ne _ _ z] at hx; exact h1 ⟨x, hx⟩
  · by_cases z : k = i
    · subst z; rw [va_up_self] at q2; cases q2
    · rw [va_up_ne _ _ z] at q2; exact h2 q1 q2
theorem up_fm {σ : Sg} {ff fm ff' fm' : Nat → Int32} {i : Nat} {e : Dm} (hi : i < σ.nd) (h : ∀ i, i < 8 → (∀ d, σ.ds i = some d → ff i = nI d.first ∧ fm i = nI d.count) ∧ (σ.nd ≤ i → ff i = 0 ∧ fm i = 0)) (h1 : ∀ k, k ≠ i → ff' k = ff k ∧ fm' k = fm k) (h2 : ff' i = nI e.first ∧ fm' i = nI e.count) : ∀ k, k < 8 → (∀ d, va_up σ.ds i (some e) k = some d → ff' k = nI d.first ∧ fm' k = nI d.count) ∧ (σ.nd ≤ k → ff' k = 0 ∧ fm' k = 0) := by
  intro k hk
  obtain ⟨a1, a2⟩ := h k hk
  refine ⟨fun x hx => ?_, fun q => ?_⟩
  · by_cases z : k = i
    · subst z; rw [va_up_self] at hx; cases hx; exact h2
    · rw [va_up_ne _ _ z] at hx; rw [(h1 k z).1, (h1 k z).2]; exact a1 x hx
  · rw [(h1 k (by omega)).1, (h1 k (by omega)).2]; exact a2 q
theorem up_au {σ : Sg} {fa fs fa' fs' : Nat → Int32} {i : Nat} {e : Dm} (h : ∀ i j d r, i < 8 → j < 64 → σ.ds i = some d → d.rv j = some r → fa (64 * i + j) = r.au ∧ fs (64 * i + j) = r.sm) (h1 : ∀ k j, k ≠ i → j < 64 → fa' (64 * k + j) = fa (64 * k + j) ∧ fs' (64 * k + j) = fs (64 * k + j)) (h2 : ∀ j r, j < 64 → e.rv j = some r → fa' (64 * i + j) = r.au ∧ fs' (64 * i + j) = r.sm) : ∀ k j d r, k < 8 → j < 64 → va_up σ.ds i (some e) k = some d → d.rv j = some r → fa' (64 * k + j) = r.au ∧ fs' (64 * k + j) = r.sm := by
  intro k j d r hk hj hd hr
  by_cases z : k = i
  · subst z; rw [va_up_self] at hd; cases hd; exact h2 j r hj hr
  · rw [va_up_ne _ _ z] at hd
    rw [(h1 k j z hj).1, (h1 k j z hj).2]
    exact h k j d r hk hj hd hr
theorem dn_gn {σ : Sg} {fg : Nat → Int32} {i : Nat} (hi : i < σ.nd) (h : ∀ i, i < 8 → ((∃ d, σ.ds i = some d) → fg i = 0) ∧ (i < σ.nd → σ.ds i = none → ¬ fg i = 0) ∧ (σ.nd ≤ i → fg i = 0)) : ∀ k, k < 8 → ((∃ d, va_up σ.ds i none k = some d) → upd fg i 1 k = 0) ∧ (k < σ.nd → va_up σ.ds i none k = none → ¬ upd fg i 1 k = 0) ∧ (σ.nd ≤ k → upd fg i 1 k = 0) := by
  intro k hk
  obtain ⟨h1, h2, h3⟩ := h k hk
  by_cases z : k = i
  · subst z
    rw [va_up_self, pk_us]
    exact ⟨fun ⟨x, hx⟩ => (by cases hx), fun _ _ => (by decide), fun q => (by omega)⟩
  · rw [va_up_ne _ _ z, pk_un z]
    exact ⟨h1, h2, h3⟩
theorem dn_fm {σ : Sg} {ff fm : Nat → Int32} {i : Nat} (h : ∀ i, i < 8 → (∀ d, σ.ds i = some d → ff i = nI d.first ∧ fm i = nI d.count) ∧ (σ.nd ≤ i → ff i = 0 ∧ fm i = 0)) : ∀ k, k < 8 → (∀ d, va_up σ.ds i none k = some d → ff k = nI d.first ∧ fm k = nI d.count) ∧ (σ.nd ≤ k → ff k = 0 ∧ fm k = 0) := by
  intro k hk
  refine ⟨fun x hx => ?_, (h k hk).2⟩
  by_cases z : k = i
  · subst z; rw [va_up_self] at hx; cases hx
  · rw [va_up_ne _ _ z] at hx; exact (h k hk).1 x hx
theorem dn_au {σ : Sg} {fa fs : Nat → Int32} {i : Nat} (h : ∀ i j d r, i < 8 → j < 64 → σ.ds i = some d → d.rv j = some r → fa (64 * i + j) = r.au ∧ fs (64 * i + j) = r.sm) : ∀ k j d r, k < 8 → j < 64 → va_up σ.ds i none k = some d → d.rv j = some r → fa (64 * k + j) = r.au ∧ fs (64 * k + j) = r.sm := by
  intro k j d r hk hj hd hr
  by_cases z : k = i
  · subst z; rw [va_up_self] at hd; cases hd
  · rw [va_up_ne _ _ z] at hd
    exact h k j d r hk hj hd hr
theorem ask_r {f c : Nat} {a : Int32} (hf : f ≤ c) (hc : c ≤ 64) (h : ¬ (a < nI f ∨ nI c ≤ a)) : ∃ r, f ≤ r ∧ r < c ∧ a = nI r := by
  have h1 : ¬ nI c ≤ a := fun z => h (Or.inr z)
  have h2 : ¬ a < nI f := fun z => h (Or.inl z)
  by_cases z : a < 0
  · exact absurd (Int32.lt_of_lt_of_le z (Int32.not_lt.mp (nI_pos (by omega)))) h2
  · obtain ⟨j, hj, rfl⟩ := nI_of z
    refine ⟨j, ?_, ?_, rfl⟩
    · exact (nI_leI (by omega) hj).mp (Int32.not_lt.mp h2)
    · rcases Nat.lt_or_ge j c with y | y
      · exact y
      · exact absurd (nI_le y hj) h1
theorem ask_n {f c r : Nat} (h1 : f ≤ r) (h2 : r < c) (hc : c ≤ 64) (q : nI r < nI f ∨ nI c ≤ nI r) : False := by
  rcases q with q | q
  · exact absurd (nI_le h1 (by omega)) (Int32.not_le.mpr q)
  · exact nI_ge h2 (by omega) q
theorem tr_au {σ : Sg} {fa fs : Nat → Int32} {i r : Nat} {d : Dm} (h : ∀ i j d r, i < 8 → j < 64 → σ.ds i = some d → d.rv j = some r → fa (64 * i + j) = r.au ∧ fs (64 * i + j) = r.sm) (hi : i < 8) (hd : σ.ds i = some d) : ∀ j v, j < 64 → cutA r d.rv 0 j = some v → fa (64 * i + j) = v.au ∧ fs (64 * i + j) = v.sm := by
  intro j v hj hv
  unfold cutA at hv
  split at hv
  · cases hv
  · exact h i j d v hi hj hd hv
theorem ab_2 {σ : Sg} {w a b : Int32} (h : w < 0 ∨ 1 < w) : (if w = 0 then (σ, (0 : Int32), a) else if w = 1 then (σ, 0, b) else (σ, 2, 0)) = (σ, 2, 0) := by
  rw [if_neg, if_neg]
  · intro z; subst z; exact absurd h (by decide)
  · intro z; subst z; exact absurd h (by decide)
theorem ab_1 {σ : Sg} {w a b : Int32} (h1 : ¬ w < 0) (h2 : w ≤ 1) (h3 : ¬ w = 0) : (if w = 0 then (σ, (0 : Int32), a) else if w = 1 then (σ, 0, b) else (σ, 2, 0)) = (σ, 0, b) := by
  obtain ⟨j, hj, rfl⟩ := nI_of h1
  have h4 := (nI_leI (b := 1) hj (by decide)).mp h2
  have h5 : j = 1 := by
    rcases Nat.eq_zero_or_pos j with z | z
    · subst z; exact absurd rfl h3
    · omega
  subst h5
  rw [if_neg h3, if_pos (show nI 1 = 1 from rfl)]
theorem rGet_N {ds : Nat → Option Dm} {a1 a2 : Int32} (h : dGet ds a1 = none) : rGet ds a1 a2 = none := by
  rw [rGet, h]
theorem rGet_F {ds : Nat → Option Dm} {a1 a2 : Int32} {i : Nat} {d : Dm} (h : dGet ds a1 = some (i, d)) (hd : dmOk d) (hF : a2 < 0 ∨ nI 64 ≤ a2) : rGet ds a1 a2 = none := by
  rw [rGet, h]
  refine if_pos ?_
  rcases hF with q | q
  · exact Or.inl q
  · exact Or.inr (Int32.le_trans (nI_le hd.2.1 (by decide)) q)
theorem rGet_G {ds : Nat → Option Dm} {a1 : Int32} {i j : Nat} {d : Dm} (h : dGet ds a1 = some (i, d)) (hj : j < 64) (hr : d.rv j = none) : rGet ds a1 (nI j) = none := by
  rw [rGet, h]
  show (if nI j < 0 ∨ nI d.count ≤ nI j then none else (d.rv (nI j).toNatClampNeg).map (fun r => (i, d, (nI j).toNatClampNeg, r))) = none
  split
  · rfl
  · rw [nI_clamp (by omega), hr]; rfl
theorem rGet_S {ds : Nat → Option Dm} {a1 : Int32} {i j : Nat} {d : Dm} {r : Rv} (h : dGet ds a1 = some (i, d)) (hd : dmOk d) (hr : d.rv j = some r) : rGet ds a1 (nI j) = some (i, d, j, r) := by
  have h1 := (hd.2.2.2 j r hr).1
  have h2 := hd.2.1
  rw [rGet, h]
  show (if nI j < 0 ∨ nI d.count ≤ nI j then none else (d.rv (nI j).toNatClampNeg).map (fun r => (i, d, (nI j).toNatClampNeg, r))) = some (i, d, j, r)
  rw [if_neg, nI_clamp (by omega), hr]
  · rfl
  · intro q
    rcases q with q | q
    · exact nI_pos (by omega) q
    · exact nI_ge h1 (by omega) q
theorem xor_nbb (x m : Int32) : nbb (x ^^^ nbb m) = nbb (x ^^^ m) := by
  unfold nbb
  congr 1
  apply Int8.toBitVec_inj.mp
  simp
theorem by_s {S : List Int32} {b k : Nat} {fr : Nat → Int32} (h : sx S b fr) (hk : k < S.length) : fr (Int32.toNatClampNeg (nI (b + k))) &&& 255 = bAt S (nI k) := by
  have := h.2.2
  rw [nI_clamp (by omega), h.1 k hk, bAt, if_neg, nI_clamp (by omega)]
  intro q
  rcases q with q | q
  · exact nI_pos (by omega) q
  · exact nI_ge hk (by omega) q
theorem by_n {S : List Int32} {i : Int32} (h : i < 0 ∨ nI S.length ≤ i) : bAt S i = (-1) := by
  rw [bAt, if_pos h]
theorem by_k {n : Nat} {i : Int32} (h1 : ¬ i < 0) (h2 : ¬ nI n ≤ i) : ∃ k, k < n ∧ k < 2 ^ 31 ∧ i = nI k := by
  obtain ⟨j, hj, rfl⟩ := nI_of h1
  refine ⟨j, ?_, hj, rfl⟩
  rcases Nat.lt_or_ge j n with z | z
  · exact z
  · exact absurd (nI_le z hj) h2
theorem da_au {σ : Sg} {fa fs : Nat → Int32} {i j : Nat} {d : Dm} {v : Rv} {S' : List Int32} (h : ∀ i j d r, i < 8 → j < 64 → σ.ds i = some d → d.rv j = some r → fa (64 * i + j) = r.au ∧ fs (64 * i + j) = r.sm) (hi : i < 8) (hd : σ.ds i = some d) (hv : d.rv j = some v) : ∀ k w, k < 64 → va_up d.rv j (some ⟨S', v.au, v.sm⟩) k = some w → fa (64 * i + k) = w.au ∧ fs (64 * i + k) = w.sm := by
  intro k w hk hw
  by_cases z : k = j
  · subst z
    rw [va_up_self] at hw
    cases hw
    exact h i k d v hi hk hd hv
  · rw [va_up_ne _ _ z] at hw
    exact h i k d w hi hk hd hw
theorem lnq_set {ds : Nat → Option Dm} {q k : Nat} {S : List Int32} {b : Int32} (h : pqS ds q = some S) : ∀ j, lnq (va_up (pqS ds) q (some (S.set k b))) j = lnq (pqS ds) j := by
  intro j
  unfold lnq
  by_cases z : j = q
  · subst z
    rw [va_up_self, h]
    show some (S.set k b).length = some S.length
    rw [List.length_set]
  · rw [va_up_ne _ _ z]
theorem by_f {n k : Nat} (h : k < n) (hk : k < 2 ^ 31) (q : nI k < 0 ∨ nI n ≤ nI k) (hn : n < 2 ^ 31 := by omega) : False := by
  rcases q with q | q
  · exact nI_pos hk q
  · exact nI_ge h hn q
theorem da_b {fr : Nat → Int32} {x3 x2 x1 x0 m : Int32} {k : Nat} (e3 : x2.toInt8.toInt32 = x3) (e2 : x2 = x0 ^^^ x1) (e1 : m.toInt8.toInt32 = x1) (e0 : x0 = fr (Int32.toNatClampNeg (nI k))) (hk : k < 2 ^ 31 := by omega) : nbb x3 = nbb (fr k ^^^ nbb m) := by
  rw [← e3, e2, e0, nI_clamp hk, ← e1]
  exact nbb_B _
theorem bct_s : ∀ k, k < 64 → 0 < k → bct 6 k = bct 6 (bs k) + 1 := by
  have h : ∀ k : Fin 64, 0 < k.1 → bct 6 k.1 = bct 6 (bs k.1) + 1 := by decide +kernel
  intro k hk
  exact h ⟨k, hk⟩
theorem bct_le : ∀ k, k < 64 → bct 6 k ≤ 6 := by
  have h : ∀ k : Fin 64, bct 6 k.1 ≤ 6 := by decide +kernel
  intro k hk
  exact h ⟨k, hk⟩
theorem fc_step {Y : List Int32} {k j : Nat} {f ft : Nat → Int32} {x : Int32} (h : tx Y k f) (hk : k ≤ 256) (hj : j < k) (e : x = f (Int32.toNatClampNeg (nI j))) (hu : tx (Y.take j) j ft) : tx (Y.take (j + 1)) (j + 1) (upd ft j (nbb x)) := by
  rw [nI_clamp (by omega)] at e
  have hB : isB x := by rw [e]; exact tx_inB h hj
  rw [take_snoc (by rw [h.1]; exact hj), ← tx_at h hj, ← e, show nbb x = x from hB]
  exact tx_push hu hB
def shu (fr : Nat → Int32) (n m : Nat) : Nat → Int32 := fun i => if m ≤ i ∧ i < 16384 then nbb (fr (i - n)) else fr i
theorem shu_0 (fr : Nat → Int32) (n : Nat) : shu fr n 16384 = fr := by
  funext i
  rw [shu, if_neg (by omega)]
theorem shu_1 {fr : Nat → Int32} {n m k : Nat} (h : m = k + 1) (hm : m ≤ 16384) : upd (shu fr n m) k (nbb (shu fr n m (k - n))) = shu fr n k := by
  funext i
  have e : shu fr n m (k - n) = fr (k - n) := by rw [shu, if_neg (by omega)]
  rw [e]
  by_cases z : i = k
  · subst z
    rw [pk_us, shu, if_pos ⟨Nat.le_refl _, by omega⟩]
  · rw [pk_un z, shu, shu]
    by_cases y : m ≤ i ∧ i < 16384
    · rw [if_pos y, if_pos ⟨by omega, y.2⟩]
    · rw [if_neg y, if_neg (by omega)]
def cpw (g p : Nat → Int32) (b j : Nat) : Nat → Int32 := fun i => if b ≤ i ∧ i < b + j then nbb (p (i - b)) else g i
theorem cpw_0 (g p : Nat → Int32) (b : Nat) : cpw g p b 0 = g := by
  funext i
  rw [cpw, if_neg (by omega)]
theorem cpw_1 {g p : Nat → Int32} {b j : Nat} : upd (cpw g p b j) (b + j) (nbb (p j)) = cpw g p b (j + 1) := by
  funext i
  by_cases z : i = b + j
  · subst z
    rw [pk_us, cpw, if_pos ⟨by omega, by omega⟩, Nat.add_sub_cancel_left]
  · rw [pk_un z, cpw, cpw]
    by_cases y : b ≤ i ∧ i < b + j
    · rw [if_pos y, if_pos ⟨y.1, by omega⟩]
    · rw [if_neg y, if_neg (by omega)]
theorem bgs_frb (ln : Nat → Option Nat) : ∀ n, bgs ln n ≤ 32 * frb ln n
  | 0 => Nat.le_refl _
  | n + 1 => by
    have := bgs_frb ln n
    rw [bgs, frb, blk]
    omega
theorem row_cm {pq : Nat → Option (List Int32)} {fr fp : Nat → Int32} {q n : Nat} {S : List Int32} (h : rowOk pq fr) (hq : q < 512) (hn : pq q = none) (hS : tx S n fp) (hf : frb (lnq pq) 512 + blk n ≤ 512) : bgs (lnq pq) q + n ≤ 16384 ∧ rowOk (va_up pq q (some S)) (cpw (shu fr n (bgs (lnq pq) q + n)) fp (bgs (lnq pq) q) n) := by
  have h1 := bgs_frb (lnq pq) 512
  rw [bgs_cat] at h1
  have h3 : n ≤ 32 * blk n := by unfold blk; omega
  have h4 : bgs (lnq pq) q ≤ (cat pq 512).length := by
    obtain ⟨R, hR⟩ := cat_split (pq := pq) hq
    have := congrArg List.length (hR pq (fun _ _ => rfl))
    simp only [List.length_append] at this
    rw [bgs_cat]
    omega
  obtain ⟨s1, s2, s3⟩ := hS
  refine ⟨by omega, row_put h hq hn s3 (by rw [s1]; omega) (fun j hj => ?_) (fun j hj => ?_) (fun j a1 a2 => ?_)⟩
  · rw [cpw, if_neg (by omega), shu, if_neg (by omega)]
  · rw [s1] at hj
    rw [cpw, if_pos ⟨by omega, by omega⟩, Nat.add_sub_cancel_left, s2 j hj]
    exact s3 _ (getD_mem (by rw [s1]; exact hj))
  · rw [s1] at a1 ⊢
    rw [cpw, if_neg (by omega), shu, if_pos ⟨by omega, a2⟩]
theorem lnq_put {pq : Nat → Option (List Int32)} {fl : Nat → Int32} {q n : Nat} {S : List Int32} (h : ∀ j, j < 512 → fl j = vI (lnq pq j)) (hn : S.length = n) : ∀ j, j < 512 → upd fl q (nI n) j = vI (lnq (va_up pq q (some S)) j) := by
  intro j hj
  by_cases z : j = q
  · subst z
    rw [pk_us, lnq, va_up_self]
    show nI n = nI S.length
    rw [hn]
  · rw [pk_un z, h j hj, lnq, lnq, va_up_ne _ _ z]
theorem cm_au {σ : Sg} {fa fs : Nat → Int32} {i : Nat} {d : Dm} {v : Rv} (h : ∀ i j d r, i < 8 → j < 64 → σ.ds i = some d → d.rv j = some r → fa (64 * i + j) = r.au ∧ fs (64 * i + j) = r.sm) (hi : i < 8) (hd : σ.ds i = some d) : ∀ k w, k < 64 → va_up d.rv d.count (some v) k = some w → upd fa (64 * i + d.count) v.au (64 * i + k) = w.au ∧ upd fs (64 * i + d.count) v.sm (64 * i + k) = w.sm := by
  intro k w hk hw
  by_cases z : k = d.count
  · subst z
    rw [va_up_self] at hw
    cases hw
    exact ⟨pk_us, pk_us⟩
  · rw [va_up_ne _ _ z] at hw
    rw [pk_un (by omega), pk_un (by omega)]
    exact h i k d w hi hk hd hw
theorem i2s_512 {n : Nat} (h : n ≤ 600) : (nI n).toInt16.toInt32 = nI n := by
  have H : ∀ n : Fin 601, (nI n.1).toInt16.toInt32 = nI n.1 := by decide +kernel
  exact H ⟨n, by omega⟩
theorem cm_nn {ds : Nat → Option Dm} {i : Nat} {d : Dm} (h : ds i = some d) (hd : dmOk d) (hc : d.count < 64) : pqS ds (64 * i + d.count) = none := by
  rw [pqS_s hc h, dmP]
  cases e : d.rv d.count with
  | none => rfl
  | some r => have := (hd.2.2.2 _ r e).1; omega
theorem nwI_lt {m t : Nat} (hm : m < 2 ^ 31) (ht : t < 2 ^ 31) : nwI m < nI t ↔ m ≤ t := by
  cases m with
  | zero =>
    refine ⟨fun _ => Nat.zero_le _, fun _ => ?_⟩
    exact Int32.lt_of_lt_of_le (show (-1 : Int32) < 0 by decide) (Int32.not_lt.mp (nI_pos ht))
  | succ k =>
    show nI k < nI t ↔ _
    rw [nI_ltI (by omega) ht]
    omega
theorem snd6_t {d : Dm} {r : Nat} {Y : List Int32} {v : Rv} (h1 : agn (dmP d) r = some Y) (h2 : d.rv r = some v) (h : sumL Y = v.sm) : snd6 d r = true := by
  rw [snd6, h1, h2]
  exact decide_eq_true h
theorem snd6_f {d : Dm} {r : Nat} {Y : List Int32} {v : Rv} (h1 : agn (dmP d) r = some Y) (h2 : d.rv r = some v) (h : ¬ sumL Y = v.sm) : snd6 d r = false := by
  rw [snd6, h1, h2]
  exact decide_eq_false h
theorem vrf_f {d : Dm} : ∀ n r k, r ≤ k → k < r + n → (∀ t, r ≤ t → t < k → snd6 d t = true) → snd6 d k = false → vrf d n r = nI k
  | 0, r, k, h1, h2, _, _ => by omega
  | n + 1, r, k, h1, h2, h3, h4 => by
    rw [vrf]
    by_cases z : r = k
    · subst z
      rw [if_neg (by rw [h4]; decide)]
    · rw [if_pos (h3 r (Nat.le_refl _) (by omega))]
      exact vrf_f n (r + 1) k (by omega) (by omega) (fun t a b => h3 t (by omega) b) h4
theorem vrf_t {d : Dm} : ∀ n r, (∀ t, r ≤ t → t < r + n → snd6 d t = true) → vrf d n r = (-1)
  | 0, _, _ => rfl
  | n + 1, r, h => by
    rw [vrf, if_pos (h r (Nat.le_refl _) (by omega))]
    exact vrf_t n (r + 1) (fun t a b => h t (by omega) (by omega))
