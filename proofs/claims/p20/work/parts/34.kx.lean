abbrev KX : Type := (Nat) × (Nat) × (Nat) × (Nat) × (Nat) × (Nat) × (Nat) × (Nat) × (Nat) × (Nat) × (Nat) × (Nat) × (Nat) × (Nat) × (Nat) × (Int32) × (Int32) × (Int32) × (Int32) × (Int32) × (Int32) × (Value) × (Nat) × (Nat) × (Nat) × (Nat) × (Nat) × (Nat) × (Nat → Int32) × (Nat → Int32) × (Nat → Int32) × (Nat → Int32) × (Nat → Int32) × (Nat → Int32)
abbrev KX.hd (x : KX) : Nat := x.1
abbrev KX.hb1 (x : KX) : Nat := x.2.1
abbrev KX.hy (x : KX) : Nat := x.2.2.1
abbrev KX.hf (x : KX) : Nat := x.2.2.2.1
abbrev KX.hfy (x : KX) : Nat := x.2.2.2.2.1
abbrev KX.hc (x : KX) : Nat := x.2.2.2.2.2.1
abbrev KX.hcy (x : KX) : Nat := x.2.2.2.2.2.2.1
abbrev KX.hmk (x : KX) : Nat := x.2.2.2.2.2.2.2.1
abbrev KX.hta (x : KX) : Nat := x.2.2.2.2.2.2.2.2.1
abbrev KX.hty (x : KX) : Nat := x.2.2.2.2.2.2.2.2.2.1
abbrev KX.hba (x : KX) : Nat := x.2.2.2.2.2.2.2.2.2.2.1
abbrev KX.hby (x : KX) : Nat := x.2.2.2.2.2.2.2.2.2.2.2.1
abbrev KX.hwr (x : KX) : Nat := x.2.2.2.2.2.2.2.2.2.2.2.2.1
abbrev KX.hrw (x : KX) : Nat := x.2.2.2.2.2.2.2.2.2.2.2.2.2.1
abbrev KX.hp (x : KX) : Nat := x.2.2.2.2.2.2.2.2.2.2.2.2.2.2.1
abbrev KX.dw (x : KX) : Int32 := x.2.2.2.2.2.2.2.2.2.2.2.2.2.2.2.1
abbrev KX.gi (x : KX) : Int32 := x.2.2.2.2.2.2.2.2.2.2.2.2.2.2.2.2.1
abbrev KX.wl (x : KX) : Int32 := x.2.2.2.2.2.2.2.2.2.2.2.2.2.2.2.2.2.1
abbrev KX.md (x : KX) : Int32 := x.2.2.2.2.2.2.2.2.2.2.2.2.2.2.2.2.2.2.1
abbrev KX.fs (x : KX) : Int32 := x.2.2.2.2.2.2.2.2.2.2.2.2.2.2.2.2.2.2.2.1
abbrev KX.a0 (x : KX) : Int32 := x.2.2.2.2.2.2.2.2.2.2.2.2.2.2.2.2.2.2.2.2.1
abbrev KX.vp (x : KX) : Value := x.2.2.2.2.2.2.2.2.2.2.2.2.2.2.2.2.2.2.2.2.2.1
abbrev KX.k (x : KX) : Nat := x.2.2.2.2.2.2.2.2.2.2.2.2.2.2.2.2.2.2.2.2.2.2.1
abbrev KX.kb (x : KX) : Nat := x.2.2.2.2.2.2.2.2.2.2.2.2.2.2.2.2.2.2.2.2.2.2.2.1
abbrev KX.q (x : KX) : Nat := x.2.2.2.2.2.2.2.2.2.2.2.2.2.2.2.2.2.2.2.2.2.2.2.2.1
abbrev KX.ku (x : KX) : Nat := x.2.2.2.2.2.2.2.2.2.2.2.2.2.2.2.2.2.2.2.2.2.2.2.2.2.1
abbrev KX.kf (x : KX) : Nat := x.2.2.2.2.2.2.2.2.2.2.2.2.2.2.2.2.2.2.2.2.2.2.2.2.2.2.1
abbrev KX.kc (x : KX) : Nat := x.2.2.2.2.2.2.2.2.2.2.2.2.2.2.2.2.2.2.2.2.2.2.2.2.2.2.2.1
abbrev KX.f (x : KX) : Nat → Int32 := x.2.2.2.2.2.2.2.2.2.2.2.2.2.2.2.2.2.2.2.2.2.2.2.2.2.2.2.2.1
abbrev KX.fb (x : KX) : Nat → Int32 := x.2.2.2.2.2.2.2.2.2.2.2.2.2.2.2.2.2.2.2.2.2.2.2.2.2.2.2.2.2.1
abbrev KX.g (x : KX) : Nat → Int32 := x.2.2.2.2.2.2.2.2.2.2.2.2.2.2.2.2.2.2.2.2.2.2.2.2.2.2.2.2.2.2.1
abbrev KX.fu (x : KX) : Nat → Int32 := x.2.2.2.2.2.2.2.2.2.2.2.2.2.2.2.2.2.2.2.2.2.2.2.2.2.2.2.2.2.2.2.1
abbrev KX.ff (x : KX) : Nat → Int32 := x.2.2.2.2.2.2.2.2.2.2.2.2.2.2.2.2.2.2.2.2.2.2.2.2.2.2.2.2.2.2.2.2.1
abbrev KX.fc (x : KX) : Nat → Int32 := x.2.2.2.2.2.2.2.2.2.2.2.2.2.2.2.2.2.2.2.2.2.2.2.2.2.2.2.2.2.2.2.2.2
def kW (h0 : Nat) (cB cD cR : ClassId) (x : KX) (ds : Nat → Option Dc) : va_W := ([(h0, .inr (0, [.ref x.hd, .ref x.hb1, .ref x.hf, .ref x.hc, .ref x.hmk, .ref x.hwr, .ref x.hp, .int x.md, .int x.fs])), (x.hp, .inr (4, [.int x.dw, .int x.gi, .int x.wl])), (x.hd, .inl (cD, 8, .inr (.inr (.inr (.inr ((dsA ds))))))), (x.hmk, .inr (2, [.ref x.hba, .ref x.hta, x.vp, .int x.a0])), (x.hta, .inr (1, [.ref x.hty, .int (nI x.k)])), (x.hty, .inl (cB, 256, .inl (x.f))), (x.hba, .inr (1, [.ref x.hby, .int (nI x.kb)])), (x.hby, .inl (cB, 256, .inl (x.fb))), (x.hwr, .inr (3, [.ref x.hrw, .int (nI x.q)])), (x.hrw, .inl (cB, 512, .inl (x.g))), (x.hb1, .inr (1, [.ref x.hy, .int (nI x.ku)])), (x.hy, .inl (cB, 256, .inl (x.fu))), (x.hf, .inr (1, [.ref x.hfy, .int (nI x.kf)])), (x.hfy, .inl (cB, 256, .inl (x.ff))), (x.hc, .inr (1, [.ref x.hcy, .int (nI x.kc)])), (x.hcy, .inl (cB, 256, .inl (x.fc)))] : va_W) ++ pW cB cR ds
abbrev kT (cB cD cR : ClassId) : List (ClassId × FieldType) := [(cB, .byte), (cD, .object R_D), (cR, .object R_V)]
def kOk (σ : Sg) (x : KX) (ds : Nat → Option Dc) : Prop := (x.dw = bI σ.down) ∧ (σ.down = false → x.gi = bI σ.go.isSome ∧ ∀ w, σ.go = some w → x.wl = nI w) ∧ (x.md = nI σ.nd) ∧ (x.fs = σ.stp) ∧ (σ.ds = dsM ds) ∧ (dsOk ds) ∧ (∀ i d j, ds i = some d → d.first ≤ j → j < d.count → ∃ r, d.rv j = some r) ∧ (tx σ.buf x.ku x.fu ∧ x.ku ≤ 256) ∧ (tx σ.fet x.kf x.ff ∧ x.kf ≤ 256) ∧ (∃ T, tx T x.k x.f ∧ x.k ≤ 256) ∧ (∃ T, tx T x.kb x.fb ∧ x.kb ≤ 256) ∧ (∃ T, tx T x.kc x.fc ∧ x.kc ≤ 256)
theorem kOk.dw {σ : Sg} {x : KX} {ds : Nat → Option Dc} (h : kOk σ x ds) : x.dw = bI σ.down := h.1
theorem kOk.gi {σ : Sg} {x : KX} {ds : Nat → Option Dc} (h : kOk σ x ds) : σ.down = false → x.gi = bI σ.go.isSome ∧ ∀ w, σ.go = some w → x.wl = nI w := h.2.1
theorem kOk.md {σ : Sg} {x : KX} {ds : Nat → Option Dc} (h : kOk σ x ds) : x.md = nI σ.nd := h.2.2.1
theorem kOk.fs {σ : Sg} {x : KX} {ds : Nat → Option Dc} (h : kOk σ x ds) : x.fs = σ.stp := h.2.2.2.1
theorem kOk.ds {σ : Sg} {x : KX} {ds : Nat → Option Dc} (h : kOk σ x ds) : σ.ds = dsM ds := h.2.2.2.2.1
theorem kOk.ok {σ : Sg} {x : KX} {ds : Nat → Option Dc} (h : kOk σ x ds) : dsOk ds := h.2.2.2.2.2.1
theorem kOk.kp {σ : Sg} {x : KX} {ds : Nat → Option Dc} (h : kOk σ x ds) : ∀ i d j, ds i = some d → d.first ≤ j → j < d.count → ∃ r, d.rv j = some r := h.2.2.2.2.2.2.1
theorem kOk.bu {σ : Sg} {x : KX} {ds : Nat → Option Dc} (h : kOk σ x ds) : tx σ.buf x.ku x.fu ∧ x.ku ≤ 256 := h.2.2.2.2.2.2.2.1
theorem kOk.fe {σ : Sg} {x : KX} {ds : Nat → Option Dc} (h : kOk σ x ds) : tx σ.fet x.kf x.ff ∧ x.kf ≤ 256 := h.2.2.2.2.2.2.2.2.1
theorem kOk.mt {σ : Sg} {x : KX} {ds : Nat → Option Dc} (h : kOk σ x ds) : ∃ T, tx T x.k x.f ∧ x.k ≤ 256 := h.2.2.2.2.2.2.2.2.2.1
theorem kOk.mb {σ : Sg} {x : KX} {ds : Nat → Option Dc} (h : kOk σ x ds) : ∃ T, tx T x.kb x.fb ∧ x.kb ≤ 256 := h.2.2.2.2.2.2.2.2.2.2.1
theorem kOk.cm {σ : Sg} {x : KX} {ds : Nat → Option Dc} (h : kOk σ x ds) : ∃ T, tx T x.kc x.fc ∧ x.kc ≤ 256 := h.2.2.2.2.2.2.2.2.2.2.2
theorem kOk.mk {σ : Sg} {x : KX} {ds : Nat → Option Dc} (h0 : x.dw = bI σ.down) (h1 : σ.down = false → x.gi = bI σ.go.isSome ∧ ∀ w, σ.go = some w → x.wl = nI w) (h2 : x.md = nI σ.nd) (h3 : x.fs = σ.stp) (h4 : σ.ds = dsM ds) (h5 : dsOk ds) (h6 : ∀ i d j, ds i = some d → d.first ≤ j → j < d.count → ∃ r, d.rv j = some r) (h7 : tx σ.buf x.ku x.fu ∧ x.ku ≤ 256) (h8 : tx σ.fet x.kf x.ff ∧ x.kf ≤ 256) (h9 : ∃ T, tx T x.k x.f ∧ x.k ≤ 256) (h10 : ∃ T, tx T x.kb x.fb ∧ x.kb ≤ 256) (h11 : ∃ T, tx T x.kc x.fc ∧ x.kc ≤ 256) : kOk σ x ds := ⟨h0, h1, h2, h3, h4, h5, h6, h7, h8, h9, h10, h11⟩
