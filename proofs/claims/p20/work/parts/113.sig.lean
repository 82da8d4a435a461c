abbrev Rv : Type := (List Int32) × (Int32) × (Int32)
abbrev Rv.S (x : Rv) : List Int32 := x.1
abbrev Rv.au (x : Rv) : Int32 := x.2.1
abbrev Rv.sm (x : Rv) : Int32 := x.2.2
abbrev Dm : Type := (Nat) × (Nat) × (Nat → Option Rv)
abbrev Dm.first (x : Dm) : Nat := x.1
abbrev Dm.count (x : Dm) : Nat := x.2.1
abbrev Dm.rv (x : Dm) : Nat → Option Rv := x.2.2
abbrev Sg : Type := (Bool) × (Option Nat) × (List Int32) × (Nat) × (Nat → Option Dm) × (List Int32) × (Int32)
abbrev Sg.down (x : Sg) : Bool := x.1
abbrev Sg.go (x : Sg) : Option Nat := x.2.1
abbrev Sg.buf (x : Sg) : List Int32 := x.2.2.1
abbrev Sg.nd (x : Sg) : Nat := x.2.2.2.1
abbrev Sg.ds (x : Sg) : Nat → Option Dm := x.2.2.2.2.1
abbrev Sg.fet (x : Sg) : List Int32 := x.2.2.2.2.2.1
abbrev Sg.stp (x : Sg) : Int32 := x.2.2.2.2.2.2
abbrev sgB (x : Sg) (buf9 : List Int32) : Sg := (x.down, x.go, buf9, x.nd, x.ds, x.fet, x.stp)
abbrev sgG (x : Sg) (go9 : Option Nat) : Sg := (x.down, go9, x.buf, x.nd, x.ds, x.fet, x.stp)
abbrev sgD (x : Sg) (ds9 : Nat → Option Dm) : Sg := (x.down, x.go, x.buf, x.nd, ds9, x.fet, x.stp)
abbrev sgN (x : Sg) (nd9 : Nat) (ds9 : Nat → Option Dm) : Sg := (x.down, x.go, x.buf, nd9, ds9, x.fet, x.stp)
abbrev sgC (x : Sg) (ds9 : Nat → Option Dm) : Sg := (x.down, x.go, [], x.nd, ds9, x.fet, x.stp)
abbrev sgF (x : Sg) (fet9 : List Int32) (stp9 : Int32) : Sg := (x.down, x.go, x.buf, x.nd, x.ds, fet9, stp9)
abbrev sgS (x : Sg) : Sg := (false, none, x.buf, x.nd, x.ds, x.fet, x.stp)
abbrev off (x : Sg) : Sg := (true, none, [], x.nd, x.ds, x.fet, x.stp)
def dmP (d : Dm) : Nat → Option (List Int32) := fun j => (d.rv j).map Rv.S
def bas (d : Dm) : Option (List Int32) := if d.count = 0 then some [] else agn (dmP d) (bs d.count)
def dmB : Option Dm → Nat
  | none => 0
  | some d => cbk (dmP d) d.count
def usd (ds : Nat → Option Dm) : Nat → Nat
  | 0 => 0
  | n + 1 => usd ds n + dmB (ds n)
def dGet (ds : Nat → Option Dm) (a : Int32) : Option (Nat × Dm) := if a < 0 ∨ nI 8 ≤ a then none else (ds a.toNatClampNeg).map (fun d => (a.toNatClampNeg, d))
theorem dGet_some {ds : Nat → Option Dm} {a : Int32} {i : Nat} {d : Dm} (h : dGet ds a = some (i, d)) : i < 8 ∧ a = nI i ∧ ds i = some d := by
  unfold dGet at h
  split at h
  · cases h
  · next q =>
    have h1 : ¬ a < 0 := fun z => q (Or.inl z)
    have h2 : ¬ nI 8 ≤ a := fun z => q (Or.inr z)
    obtain ⟨j, hj, rfl⟩ := nI_of h1
    rw [nI_clamp hj] at h
    cases e : ds j with
    | none => rw [e] at h; cases h
    | some d' =>
      rw [e] at h
      cases h
      refine ⟨?_, rfl, e⟩
      rcases Nat.lt_or_ge i 8 with z | z
      · exact z
      · exact absurd (nI_le z hj) h2
theorem dGet_none {ds : Nat → Option Dm} {a : Int32} (h : dGet ds a = none) : a < 0 ∨ nI 8 ≤ a ∨ ds a.toNatClampNeg = none := by
  unfold dGet at h
  split at h
  · next q => exact q.elim Or.inl (fun z => Or.inr (Or.inl z))
  · cases e : ds a.toNatClampNeg with
    | none => exact Or.inr (Or.inr rfl)
    | some d => rw [e] at h; cases h
def spend (σ : Sg) (n : Nat) : Option Sg :=
  match σ.go with
  | none => some σ
  | some w => if w < n then none else some (sgG σ (some (w - n)))
def sFeed (σ : Sg) (a b c d e : Int32) : Sg × Int32 × Int32 :=
  if σ.down then (σ, 1, 0) else if 256 < σ.buf.length + 20 then (σ, 0, 0) else (sgB σ (σ.buf ++ (fb4 a ++ (fb4 b ++ (fb4 c ++ (fb4 d ++ fb4 e))))), 0, 1)
def sEnd (σ : Sg) (n : Int32) : Sg × Int32 × Int32 :=
  if σ.down then (σ, 1, 0) else if n < 0 ∨ nI σ.buf.length < n then (σ, 0, 0) else (sgB σ (σ.buf.take n.toNatClampNeg), 0, 1)
def sMake (σ : Sg) : Sg × Int32 × Int32 :=
  if σ.down then (σ, 1, 0) else if σ.nd = 8 then (σ, 0, -1) else
  match spend σ 1 with
  | none => (off σ, 1, 0)
  | some τ => (sgN τ (σ.nd + 1) (va_up σ.ds σ.nd (some ⟨0, 0, fun _ => none⟩)), 0, nI σ.nd)
def sCommit (σ : Sg) (a1 a2 : Int32) : Sg × Int32 × Int32 :=
  if σ.down then (σ, 1, 0) else
  match dGet σ.ds a1 with
  | none => (σ, 0, -1)
  | some (i, d) =>
    if d.count = 64 then (σ, 0, -1) else
    match bas d with
    | none => (σ, 0, -1)
    | some B =>
      if 512 < usd σ.ds 8 + blk (pce σ.buf B).length then (σ, 0, -1) else
      match spend σ (blk (pce σ.buf B).length + 1) with
      | none => (off σ, 1, 0)
      | some τ => (sgC τ (va_up σ.ds i (some ⟨d.first, d.count + 1, va_up d.rv d.count (some ⟨pce σ.buf B, a2, sumL σ.buf⟩)⟩)), 0, nI d.count)
def bct : Nat → Nat → Nat
  | 0, _ => 0
  | n + 1, k => if k = 0 then 0 else bct n (bs k) + 1
def sFetch (σ : Sg) (a1 a2 : Int32) : Sg × Int32 × Int32 :=
  if σ.down then (σ, 1, 0) else
  match dGet σ.ds a1 with
  | none => (σ, 0, -1)
  | some (_, d) =>
    if a2 < nI d.first ∨ nI d.count ≤ a2 then (σ, 0, -1) else
    match agn (dmP d) a2.toNatClampNeg with
    | none => (σ, 0, -2)
    | some Y => (sgF σ (Y) (nI (bct 6 a2.toNatClampNeg)), 0, nI Y.length)
def sOut (σ : Sg) (i : Int32) : Sg × Int32 × Int32 := if σ.down then (σ, 1, 0) else (σ, 0, bAt σ.fet i)
def sSteps (σ : Sg) : Sg × Int32 × Int32 := if σ.down then (σ, 1, 0) else (σ, 0, σ.stp)
def sTrim (σ : Sg) (a1 a2 : Int32) : Sg × Int32 × Int32 :=
  if σ.down then (σ, 1, 0) else
  match dGet σ.ds a1 with
  | none => (σ, 0, 0)
  | some (i, d) =>
    if a2 < nI d.first ∨ nI d.count ≤ a2 then (σ, 0, 0) else
    match spend σ 1 with
    | none => (off σ, 1, 0)
    | some τ => (sgD τ (va_up σ.ds i (some ⟨a2.toNatClampNeg, d.count, cutA a2.toNatClampNeg d.rv 0⟩)), 0, 1)
def sDrop (σ : Sg) (a1 : Int32) : Sg × Int32 × Int32 :=
  if σ.down then (σ, 1, 0) else
  match dGet σ.ds a1 with
  | none => (σ, 0, 0)
  | some (i, _) =>
    match spend σ 1 with
    | none => (off σ, 1, 0)
    | some τ => (sgD τ (va_up σ.ds i none), 0, 1)
def sAbout (σ : Sg) (a1 w : Int32) : Sg × Int32 × Int32 :=
  if σ.down then (σ, 3, 0) else
  match dGet σ.ds a1 with
  | none => (σ, 1, 0)
  | some (_, d) => if w = 0 then (σ, 0, nI d.first) else if w = 1 then (σ, 0, nwI d.count) else (σ, 2, 0)
def rGet (ds : Nat → Option Dm) (a1 a2 : Int32) : Option (Nat × Dm × Nat × Rv) :=
  match dGet ds a1 with
  | none => none
  | some (i, d) => if a2 < 0 ∨ nI d.count ≤ a2 then none else (d.rv a2.toNatClampNeg).map (fun r => (i, d, a2.toNatClampNeg, r))
def sByte (σ : Sg) (a1 a2 i : Int32) : Sg × Int32 × Int32 :=
  if σ.down then (σ, 1, 0) else
  match rGet σ.ds a1 a2 with
  | none => (σ, 0, -1)
  | some (_, _, _, r) => (σ, 0, bAt r.S i)
def sDamage (σ : Sg) (a1 a2 i mask : Int32) : Sg × Int32 × Int32 :=
  if σ.down then (σ, 1, 0) else
  match rGet σ.ds a1 a2 with
  | none => (σ, 0, 0)
  | some (k, d, j, r) => if i < 0 ∨ nI r.S.length ≤ i then (σ, 0, 0) else
    (sgD σ (va_up σ.ds k (some ⟨d.first, d.count, va_up d.rv j (some ⟨r.S.set i.toNatClampNeg (nbb (r.S.getD i.toNatClampNeg 0 ^^^ mask)), r.au, r.sm⟩)⟩)), 0, 1)
def snd6 (d : Dm) (r : Nat) : Bool :=
  match agn (dmP d) r, d.rv r with
  | some Y, some v => decide (sumL Y = v.sm)
  | _, _ => false
def vrf (d : Dm) : Nat → Nat → Int32
  | 0, _ => -1
  | n + 1, r => if snd6 d r then vrf d n (r + 1) else nI r
def sVerify (σ : Sg) (a1 : Int32) : Sg × Int32 × Int32 :=
  if σ.down then (σ, 1, 0) else
  match dGet σ.ds a1 with
  | none => (σ, 0, -1)
  | some (_, d) => (σ, 0, vrf d (d.count - d.first) d.first)
def cpb (x y : List Int32) : Nat := min (cpl x.reverse y.reverse) (min x.length y.length - cpl x y)
def sCommon (σ : Sg) (a1 one two w : Int32) : Sg × Int32 × Int32 :=
  if σ.down then (σ, 1, 0) else
  match dGet σ.ds a1 with
  | none => (σ, 0, -1)
  | some (_, d) =>
    if (one < nI d.first ∨ nI d.count ≤ one) ∨ (two < nI d.first ∨ nI d.count ≤ two) ∨ ¬ (w = 0 ∨ w = 1) then (σ, 0, -1) else
    match agn (dmP d) one.toNatClampNeg, agn (dmP d) two.toNatClampNeg with
    | some X, some Y => (σ, 0, nI (if w = 0 then cpl X Y else cpb X Y))
    | _, _ => (σ, 0, -2)
def sFree (σ : Sg) : Sg × Int32 × Int32 := if σ.down then (σ, 1, 0) else (σ, 0, nI (512 - usd σ.ds 8))
def sCut (σ : Sg) (n : Int32) : Sg × Int32 × Int32 := if σ.down then (σ, 1, 0) else if n < 0 then (σ, 0, 0) else (sgG σ (some n.toNatClampNeg), 0, 1)
def sStart (σ : Sg) : Sg × Int32 × Int32 := if σ.down then (sgS σ, 0, 1) else (σ, 0, 0)
def sIsDown (σ : Sg) : Sg × Int32 × Int32 := (σ, 0, bI σ.down)
def dmOk (d : Dm) : Prop := d.first ≤ d.count ∧ d.count ≤ 64 ∧ (∀ j, d.first ≤ j → j < d.count → ∃ r, d.rv j = some r) ∧ ∀ j r, d.rv j = some r → j < d.count ∧ r.S.length ≤ 512 ∧ ∀ b ∈ r.S, isB b
def sOk (σ : Sg) : Prop := (∀ w, σ.go = some w → w < 2 ^ 31) ∧ (σ.down = true → σ.go = none) ∧ (σ.buf.length ≤ 256 ∧ ∀ b ∈ σ.buf, isB b) ∧ (σ.nd ≤ 8) ∧ (∀ i d, σ.ds i = some d → i < σ.nd ∧ dmOk d) ∧ (usd σ.ds 8 ≤ 512) ∧ (σ.fet.length ≤ 256 ∧ ∀ b ∈ σ.fet, isB b)
theorem sOk.go {σ : Sg} (h : sOk σ) : ∀ w, σ.go = some w → w < 2 ^ 31 := h.1
theorem sOk.dn {σ : Sg} (h : sOk σ) : σ.down = true → σ.go = none := h.2.1
theorem sOk.buf {σ : Sg} (h : sOk σ) : σ.buf.length ≤ 256 ∧ ∀ b ∈ σ.buf, isB b := h.2.2.1
theorem sOk.nd {σ : Sg} (h : sOk σ) : σ.nd ≤ 8 := h.2.2.2.1
theorem sOk.ds {σ : Sg} (h : sOk σ) : ∀ i d, σ.ds i = some d → i < σ.nd ∧ dmOk d := h.2.2.2.2.1
theorem sOk.us {σ : Sg} (h : sOk σ) : usd σ.ds 8 ≤ 512 := h.2.2.2.2.2.1
theorem sOk.fet {σ : Sg} (h : sOk σ) : σ.fet.length ≤ 256 ∧ ∀ b ∈ σ.fet, isB b := h.2.2.2.2.2.2
theorem sOk.mk {σ : Sg} (h0 : ∀ w, σ.go = some w → w < 2 ^ 31) (h1 : σ.down = true → σ.go = none) (h2 : σ.buf.length ≤ 256 ∧ ∀ b ∈ σ.buf, isB b) (h3 : σ.nd ≤ 8) (h4 : ∀ i d, σ.ds i = some d → i < σ.nd ∧ dmOk d) (h5 : usd σ.ds 8 ≤ 512) (h6 : σ.fet.length ≤ 256 ∧ ∀ b ∈ σ.fet, isB b) : sOk σ := ⟨h0, h1, h2, h3, h4, h5, h6⟩
