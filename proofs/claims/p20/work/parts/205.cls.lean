def plD (cB cR : ClassId) (ds : Nat → Option Dc) (pl : va_W) : Prop := ∀ i d, i < 8 → ds i = some d → ∃ pl', pl.Perm (dcH cR d ++ pl') ∧ plR cB d.rv pl'
def dsOk (ds : Nat → Option Dc) : Prop := ∀ i d, ds i = some d → d.count ≤ 64 ∧ rvOk d.rv
def cfr (ds : Nat → Option Dc) : Nat → Nat
  | 0 => 0
  | n + 1 => cfr ds n + (match ds n with | none => 0 | some d => cbk (rvP d.rv) d.count)
theorem cfr_z (ds : Nat → Option Dc) : 512 - nI (cfr ds 0) = 512 := by
  show (512 : Int32) - nI 0 = 512
  decide
theorem cfr_n {ds : Nat → Option Dc} {j : Nat} (h : ds j = none) : cfr ds (j + 1) = cfr ds j := by rw [cfr, h]; rfl
theorem cfr_s {ds : Nat → Option Dc} {j : Nat} {d : Dc} (h : ds j = some d) : cfr ds (j + 1) = cfr ds j + cbk (rvP d.rv) d.count := by rw [cfr, h]
theorem dsA_n {ds : Nat → Option Dc} {j : Nat} (h : ds j = none) : dsA ds j = none := by rw [dsA, h]; rfl
theorem dsA_s {ds : Nat → Option Dc} {j : Nat} {d : Dc} (h : ds j = some d) : dsA ds j = some d.a := by rw [dsA, h]; rfl
theorem plD_of {cB cR : ClassId} {ds : Nat → Option Dc} : plD cB cR ds (pW cB cR ds) := fun _ _ hi h => ⟨_, pW_take hi h, plR_of⟩
theorem pce_len (L M : List Int32) : (pce L M).length ≤ L.length + 2 := by
  unfold pce
  split
  · next h => have := dgt_le (2 * L.length); omega
  · rw [insE_0]
    exact oneE_le _
def rcM (r : Rc) : Rv := ⟨r.S, r.au, r.sm⟩
def dcM (d : Dc) : Dm := ⟨d.first, d.count, fun j => (d.rv j).map rcM⟩
theorem dmP_M (d : Dc) : dmP (dcM d) = rvP d.rv := by
  funext j
  show ((d.rv j).map rcM).map Rv.S = (d.rv j).map Rc.S
  cases d.rv j <;> rfl
theorem bas_M (d : Dc) : bas (dcM d) = basR d.rv d.count := by
  rw [bas, dmP_M]
  rfl
def dsM (ds : Nat → Option Dc) : Nat → Option Dm := fun i => (ds i).map dcM
theorem usd_M (ds : Nat → Option Dc) : ∀ n, usd (dsM ds) n = cfr ds n
  | 0 => rfl
  | n + 1 => by
    rw [usd, cfr, usd_M ds n]
    congr 1
    show dmB ((ds n).map dcM) = _
    cases ds n with
    | none => rfl
    | some d => show cbk (dmP (dcM d)) d.count = _; rw [dmP_M]
theorem dsM_up (ds : Nat → Option Dc) (i : Nat) (o : Option Dc) : dsM (va_up ds i o) = va_up (dsM ds) i (o.map dcM) := by
  funext k
  unfold dsM va_up
  split <;> rfl
theorem dsA_up (ds : Nat → Option Dc) (i : Nat) (o : Option Dc) : dsA (va_up ds i o) = va_up (dsA ds) i (o.map Dc.a) := by
  funext k
  unfold dsA va_up
  split <;> rfl
theorem rvA_up (rv : Nat → Option Rc) (i : Nat) (o : Option Rc) : rvA (va_up rv i o) = va_up (rvA rv) i (o.map Rc.a) := by
  funext k
  unfold rvA va_up
  split <;> rfl
theorem rvM_up (rv : Nat → Option Rc) (i : Nat) (o : Option Rc) : (fun j => ((va_up rv i o) j).map rcM) = va_up (fun j => (rv j).map rcM) i (o.map rcM) := by
  funext k
  unfold va_up
  split <;> rfl
theorem rvA_cut (rv : Nat → Option Rc) (f k : Nat) : rvA (cutA f rv k) = cutA f (rvA rv) k := by
  funext j
  unfold rvA cutA
  split <;> rfl
theorem rvM_cut (rv : Nat → Option Rc) (f k : Nat) : (fun j => (cutA f rv k j).map rcM) = cutA f (fun j => (rv j).map rcM) k := by
  funext j
  unfold cutA
  split <;> rfl
theorem va_P.less {D : va_G} {cl : List vw_C} {ws ws' : va_W} {H : Heap} (h : va_P D cl ws H) (p : ws'.Sublist ws) : va_P D cl ws' H := fun k q hk => by
  obtain ⟨i, hi⟩ := List.getElem?_of_mem (p.subset (List.mem_of_getElem? hk))
  exact h i q hi
theorem va_D.less {A : Nat → Prop} {ws ws' : va_W} (h : va_D A ws) (p : ws'.Sublist ws) : va_D A ws' := by
  rw [va_D_iff] at h ⊢
  exact ⟨h.1.sublist p, fun q hq => h.2 q (p.subset hq)⟩
theorem fl_less {α : Type} {f g : Nat → List α} : ∀ {n : Nat}, (∀ j, (g j).Sublist (f j)) → (fl g n).Sublist (fl f n)
  | 0, _ => List.Sublist.refl _
  | n + 1, h => by
    rw [fl, fl]
    exact (fl_less h).append (h n)
theorem rvW_cut (cB : ClassId) (rv : Nat → Option Rc) (f k : Nat) : (rvW cB (cutA f rv k)).Sublist (rvW cB rv) := by
  refine fl_less (fun j => ?_)
  unfold cutA
  split
  · exact List.nil_sublist _
  · exact List.Sublist.refl _
theorem rvW_add {cB : ClassId} {rv : Nat → Option Rc} {j : Nat} {r : Rc} (hj : j < 64) (hn : rv j = none) : (rvW cB (va_up rv j (some r))).Perm (rcW cB r ++ rvW cB rv) := by
  have := rvW_put (cB := cB) (rv := rv) (r := r) hj
  have e : va_up rv j none = rv := funext (fun k => by unfold va_up; split <;> simp_all)
  rw [e] at this
  exact this
theorem pW_add {cB cR : ClassId} {ds : Nat → Option Dc} {i : Nat} {d : Dc} (hi : i < 8) (hn : ds i = none) : (pW cB cR (va_up ds i (some d))).Perm (dcH cR d ++ (rvW cB d.rv ++ pW cB cR ds)) := by
  have := pW_put (cB := cB) (cR := cR) (ds := ds) (d := d) hi
  rw [pW_none hn] at this
  exact this
theorem rvW_nil (cB : ClassId) : rvW cB (fun _ => none) = [] := by
  have : ∀ n, fl (fun j => rcO cB ((fun _ => none : Nat → Option Rc) j)) n = [] := by
    intro n
    induction n with
    | zero => rfl
    | succ n ih => rw [fl, ih]; rfl
  exact this 64
def ish (x y : Int32) : Int32 := (x.toUInt32 >>> (y.toUInt32 &&& Int32.toUInt32 31)).toInt32
def bc1 (i : Int32) : Int32 := i - (ish i 1 &&& 1431655765)
def bc2 (i : Int32) : Int32 := (i &&& 858993459) + (ish i 2 &&& 858993459)
def bc3 (i : Int32) : Int32 := (i + ish i 4) &&& 252645135
def bc4 (i : Int32) : Int32 := i + ish i 8
def bc5 (i : Int32) : Int32 := i + ish i 16
theorem bitc {r : Nat} (h : r < 64) : bc5 (bc4 (bc3 (bc2 (bc1 (nI r))))) &&& 63 = nI (bct 6 r) := by
  have H : ∀ r : Fin 64, bc5 (bc4 (bc3 (bc2 (bc1 (nI r.1))))) &&& 63 = nI (bct 6 r.1) := by decide +kernel
  exact H ⟨r, h⟩
