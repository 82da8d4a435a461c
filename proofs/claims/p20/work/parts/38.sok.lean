def dW (nd : Nat) (ds : Nat → Option Dm) : Prop := ∀ i d, ds i = some d → i < nd ∧ d.first ≤ d.count ∧ ∀ j r, d.rv j = some r → j < d.count ∧ r.S.length ≤ 512
def sW (σ : Sg) : Prop := (∀ w, σ.go = some w → w < 2 ^ 31) ∧ (σ.down = true → σ.go = none) ∧ σ.nd ≤ 8 ∧ dW σ.nd σ.ds ∧ usd σ.ds 8 ≤ 512
theorem sW_of {σ : Sg} (h : sOk σ) : sW σ := ⟨h.go, h.dn, h.nd, fun i d e => ⟨(h.ds i d e).1, (h.ds i d e).2.1, fun j r q => ⟨((h.ds i d e).2.2.2.2 j r q).1, ((h.ds i d e).2.2.2.2 j r q).2.1⟩⟩, h.us⟩
theorem sOk_of {σ : Sg} {x : KX} {ds : Nat → Option Dc} (h : sW σ) (hk : kOk σ x ds) : sOk σ := by
  obtain ⟨h0, h1, h3, h4, h5⟩ := h
  refine sOk.mk h0 h1 ⟨by rw [hk.bu.1.1]; exact hk.bu.2, hk.bu.1.2.2⟩ h3 (fun i d e => ?_) h5 ⟨by rw [hk.fe.1.1]; exact hk.fe.2, hk.fe.1.2.2⟩
  obtain ⟨a1, a2, a3⟩ := h4 i d e
  have e2 := e
  rw [hk.ds] at e2
  unfold dsM at e2
  cases q : ds i with
  | none => rw [q] at e2; cases e2
  | some d' =>
    rw [q] at e2
    cases e2
    refine ⟨a1, a2, (hk.ok i d' q).1, fun j h1 h2 => ?_, fun j r hr => ?_⟩
    · obtain ⟨r, hr⟩ := hk.kp i d' j q h1 h2
      exact ⟨rcM r, by show (d'.rv j).map rcM = _; rw [hr]; rfl⟩
    · refine ⟨(a3 j r hr).1, (a3 j r hr).2, ?_⟩
      have hr : (d'.rv j).map rcM = some r := hr
      cases z : d'.rv j with
      | none => rw [z] at hr; cases hr
      | some r' =>
        rw [z] at hr
        cases hr
        exact ((hk.ok i d' q).2 j r' z).1.2.2
theorem usd_up (ds : Nat → Option Dm) (i : Nat) (o : Option Dm) : ∀ n, i < n → usd (va_up ds i o) n + dmB (ds i) = usd ds n + dmB o
  | 0, h => absurd h (Nat.not_lt_zero i)
  | n + 1, h => by
    rw [usd, usd]
    by_cases q : i = n
    · subst q
      rw [va_up_self]
      have : ∀ m, m ≤ i → usd (va_up ds i o) m = usd ds m := by
        intro m
        induction m with
        | zero => intro _; rfl
        | succ m ih => intro hm; rw [usd, usd, ih (by omega), va_up_ne _ _ (by omega)]
      rw [this i (Nat.le_refl i)]
      omega
    · have := usd_up ds i o n (by omega)
      rw [va_up_ne _ _ (by omega)]
      omega
theorem dW_up {nd i : Nat} {ds : Nat → Option Dm} {d : Dm} (h : dW nd ds) (hi : i < nd) (h1 : d.first ≤ d.count) (h2 : ∀ j r, d.rv j = some r → j < d.count ∧ r.S.length ≤ 512) : dW nd (va_up ds i (some d)) := by
  intro k e q
  by_cases z : k = i
  · subst z
    rw [va_up_self] at q
    cases q
    exact ⟨hi, h1, h2⟩
  · rw [va_up_ne _ _ z] at q
    exact h k e q
theorem dW_dn {nd i : Nat} {ds : Nat → Option Dm} (h : dW nd ds) : dW nd (va_up ds i none) := by
  intro k e q
  by_cases z : k = i
  · subst z
    rw [va_up_self] at q
    cases q
  · rw [va_up_ne _ _ z] at q
    exact h k e q
theorem dW_more {n m : Nat} {ds : Nat → Option Dm} (h : dW n ds) (hm : n ≤ m) : dW m ds := fun i d e => ⟨Nat.lt_of_lt_of_le (h i d e).1 hm, (h i d e).2⟩
theorem cbk_mono {p q : Nat → Option (List Int32)} (h : ∀ j, blO (p j) ≤ blO (q j)) : ∀ n, cbk p n ≤ cbk q n
  | 0 => Nat.le_refl _
  | n + 1 => by
    rw [cbk, cbk]
    have := cbk_mono h n
    have := h n
    omega
theorem sW_go {σ : Sg} {n : Nat} (h : sW σ) (hd : σ.down = false) : (∀ w, σ.go.map (· - n) = some w → w < 2 ^ 31) ∧ (σ.down = true → σ.go.map (· - n) = none) := by
  refine ⟨fun w q => ?_, fun q => absurd (q.symm.trans hd) (by decide)⟩
  cases e : σ.go with
  | none => rw [e] at q; cases q
  | some v =>
    rw [e] at q
    have := h.1 v e
    cases q
    show v - n < 2 ^ 31
    omega
theorem sW_off {σ : Sg} (h : sW σ) : sW (off σ) := ⟨fun _ q => (by cases q), fun _ => rfl, h.2.2⟩
theorem dn_of {σ : Sg} (h : ¬ σ.down = true) : σ.down = false := by
  cases e : σ.down with
  | false => rfl
  | true => exact absurd e h
theorem sW_feed {σ : Sg} {a b c d e : Int32} (h : sW σ) : sW (sFeed σ a b c d e).1 := by
  unfold sFeed
  split
  · exact h
  · split
    · exact h
    · exact h
theorem sW_end {σ : Sg} {n : Int32} (h : sW σ) : sW (sEnd σ n).1 := by
  unfold sEnd
  split
  · exact h
  · split
    · exact h
    · exact h
theorem sW_make {σ : Sg} (h : sW σ) : sW (sMake σ).1 := by
  unfold sMake
  split
  · exact h
  · next hd =>
    split
    · exact h
    · next h8 =>
      split
      · exact sW_off h
      · next τ hsp =>
        obtain ⟨rfl, -⟩ := spend_some hsp
        obtain ⟨g1, g2⟩ := sW_go (n := 1) h (dn_of hd)
        have hn : σ.nd < 8 := by have := h.2.2.1; omega
        refine ⟨g1, g2, hn, dW_up (dW_more h.2.2.2.1 (Nat.le_succ _)) (Nat.lt_succ_self _) (Nat.le_refl _) (fun j r q => by cases q), ?_⟩
        have h1 := usd_up σ.ds σ.nd (some (0, 0, fun _ => none)) 8 hn
        have h2 : dmB (some ((0, 0, fun _ => none) : Dm)) = 0 := rfl
        have h3 := h.2.2.2.2
        show usd (va_up σ.ds σ.nd (some (0, 0, fun _ => none))) 8 ≤ 512
        omega
theorem dGet_i {σ : Sg} {a : Int32} {i : Nat} {d : Dm} (h : sW σ) (hd : dGet σ.ds a = some (i, d)) : i < 8 ∧ i < σ.nd ∧ σ.ds i = some d ∧ d.first ≤ d.count ∧ ∀ j r, d.rv j = some r → j < d.count ∧ r.S.length ≤ 512 := by
  obtain ⟨h1, -, h3⟩ := dGet_some hd
  exact ⟨h1, (h.2.2.2.1 i d h3).1, h3, (h.2.2.2.1 i d h3).2⟩
theorem cbk_add {d : Dm} {v : Rv} : cbk (dmP (d.first, d.count + 1, va_up d.rv d.count (some v))) (d.count + 1) = cbk (dmP d) d.count + blk v.S.length := by
  have e : ∀ n, n ≤ d.count → cbk (dmP (d.first, d.count + 1, va_up d.rv d.count (some v))) n = cbk (dmP d) n := by
    intro n
    induction n with
    | zero => intro _; rfl
    | succ n ih =>
      intro hn
      rw [cbk, cbk, ih (by omega)]
      congr 2
      show ((va_up d.rv d.count (some v)) n).map Rv.S = (d.rv n).map Rv.S
      rw [va_up_ne _ _ (by omega)]
  rw [cbk, e _ (Nat.le_refl _)]
  congr 1
  show blO (((va_up d.rv d.count (some v)) d.count).map Rv.S) = _
  rw [va_up_self]
  rfl
theorem sW_commit {σ : Sg} {a1 a2 : Int32} (hs : sOk σ) : sW (sCommit σ a1 a2).1 := by
  have h := sW_of hs
  unfold sCommit
  split
  · exact h
  · next hd =>
    split
    · exact h
    · next i d hg =>
      split
      · exact h
      · split
        · exact h
        · next B hb =>
          split
          · exact h
          · next hr =>
            split
            · exact sW_off h
            · next τ hsp =>
              obtain ⟨rfl, -⟩ := spend_some hsp
              obtain ⟨g1, g2⟩ := sW_go (n := blk (pce σ.buf B).length + 1) h (dn_of hd)
              obtain ⟨i8, ind, hi, hf, hp⟩ := dGet_i h hg
              refine ⟨g1, g2, h.2.2.1, dW_up h.2.2.2.1 ind (Nat.le_succ_of_le hf) (fun j r q => ?_), ?_⟩
              · by_cases z : j = d.count
                · subst z
                  have q : va_up d.rv d.count _ d.count = some r := q
                  rw [va_up_self] at q
                  cases q
                  have h1 := pce_len σ.buf B
                  have h2 := hs.buf.1
                  exact ⟨Nat.lt_succ_self _, by show (pce σ.buf B).length ≤ 512; omega⟩
                · have q : va_up d.rv d.count _ j = some r := q
                  rw [va_up_ne _ _ z] at q
                  exact ⟨Nat.lt_succ_of_lt (hp j r q).1, (hp j r q).2⟩
              · have h1 := usd_up σ.ds i (some (d.first, d.count + 1, va_up d.rv d.count (some (pce σ.buf B, a2, sumL σ.buf)))) 8 i8
                have h2 : dmB (some ((d.first, d.count + 1, va_up d.rv d.count (some (pce σ.buf B, a2, sumL σ.buf))) : Dm)) = cbk (dmP d) d.count + blk (pce σ.buf B).length := cbk_add (v := (pce σ.buf B, a2, sumL σ.buf))
                have h3 : dmB (σ.ds i) = cbk (dmP d) d.count := by rw [hi]; rfl
                show usd (va_up σ.ds i (some (d.first, d.count + 1, va_up d.rv d.count (some (pce σ.buf B, a2, sumL σ.buf))))) 8 ≤ 512
                omega
theorem sW_fetch {σ : Sg} {a1 a2 : Int32} (h : sW σ) : sW (sFetch σ a1 a2).1 := by
  unfold sFetch
  split
  · exact h
  · split
    · exact h
    · split
      · exact h
      · split
        · exact h
        · exact h
theorem sW_trim {σ : Sg} {a1 a2 : Int32} (h : sW σ) (h64 : ∀ i d, σ.ds i = some d → d.count ≤ 64) : sW (sTrim σ a1 a2).1 := by
  unfold sTrim
  split
  · exact h
  · next hd =>
    split
    · exact h
    · next i d hg =>
      split
      · exact h
      · next ha =>
        split
        · exact sW_off h
        · next τ hsp =>
          obtain ⟨rfl, -⟩ := spend_some hsp
          obtain ⟨g1, g2⟩ := sW_go (n := 1) h (dn_of hd)
          obtain ⟨i8, ind, hi, hf, hp⟩ := dGet_i h hg
          have hc := h64 i d hi
          have hle : a2.toNatClampNeg ≤ d.count := by
            have h1 : ¬ a2 < nI d.first := fun z => ha (Or.inl z)
            have h2 : ¬ nI d.count ≤ a2 := fun z => ha (Or.inr z)
            have h3 : ¬ a2 < 0 := fun z => h1 (Int32.lt_of_lt_of_le z (nI_pos' (by omega)))
            obtain ⟨j, hj, rfl⟩ := nI_of h3
            rw [nI_clamp hj]
            rcases Nat.lt_or_ge j d.count with q | q
            · omega
            · exact absurd (nI_le q hj) h2
          have hcut : ∀ j r, cutA a2.toNatClampNeg d.rv 0 j = some r → d.rv j = some r := by
            intro j r q
            unfold cutA at q
            split at q
            · cases q
            · exact q
          refine ⟨g1, g2, h.2.2.1, dW_up h.2.2.2.1 ind hle (fun j r q => hp j r (hcut j r q)), ?_⟩
          have h1 := usd_up σ.ds i (some (a2.toNatClampNeg, d.count, cutA a2.toNatClampNeg d.rv 0)) 8 i8
          have h2 : dmB (some ((a2.toNatClampNeg, d.count, cutA a2.toNatClampNeg d.rv 0) : Dm)) ≤ cbk (dmP d) d.count := by
            refine cbk_mono (fun j => ?_) d.count
            show blO ((cutA a2.toNatClampNeg d.rv 0 j).map Rv.S) ≤ blO ((d.rv j).map Rv.S)
            unfold cutA
            split
            · exact Nat.zero_le _
            · exact Nat.le_refl _
          have h3 : dmB (σ.ds i) = cbk (dmP d) d.count := by rw [hi]; rfl
          have h4 := h.2.2.2.2
          show usd (va_up σ.ds i (some (a2.toNatClampNeg, d.count, cutA a2.toNatClampNeg d.rv 0))) 8 ≤ 512
          omega
theorem sW_drop {σ : Sg} {a1 : Int32} (h : sW σ) : sW (sDrop σ a1).1 := by
  unfold sDrop
  split
  · exact h
  · next hd =>
    split
    · exact h
    · next i d hg =>
      split
      · exact sW_off h
      · next τ hsp =>
        obtain ⟨rfl, -⟩ := spend_some hsp
        obtain ⟨g1, g2⟩ := sW_go (n := 1) h (dn_of hd)
        obtain ⟨i8, ind, hi, hf, hp⟩ := dGet_i h hg
        refine ⟨g1, g2, h.2.2.1, dW_dn h.2.2.2.1, ?_⟩
        have h1 := usd_up σ.ds i none 8 i8
        have h2 : dmB none = 0 := rfl
        have h4 := h.2.2.2.2
        show usd (va_up σ.ds i none) 8 ≤ 512
        omega
theorem sW_damage {σ : Sg} {a1 a2 i mask : Int32} (h : sW σ) : sW (sDamage σ a1 a2 i mask).1 := by
  unfold sDamage
  split
  · exact h
  · split
    · exact h
    · next k d j r hg =>
      split
      · exact h
      · obtain ⟨hd, hj⟩ : dGet σ.ds a1 = some (k, d) ∧ d.rv j = some r := by
          unfold rGet at hg
          split at hg
          · cases hg
          · next i' d' hd =>
            split at hg
            · cases hg
            · cases e : d'.rv a2.toNatClampNeg with
              | none => rw [e] at hg; cases hg
              | some r' =>
                rw [e] at hg
                cases hg
                exact ⟨hd, e⟩
        obtain ⟨k8, knd, hk, hf, hp⟩ := dGet_i h hd
        have hset : ∀ b : Int32, ∀ t, ((va_up d.rv j (some (r.S.set i.toNatClampNeg b, r.au, r.sm))) t).map (fun v => v.S.length) = (d.rv t).map (fun v => v.S.length) := by
          intro b t
          by_cases z : t = j
          · subst z
            rw [va_up_self, hj]
            show some ((r.S.set i.toNatClampNeg b).length) = some r.S.length
            rw [List.length_set]
          · rw [va_up_ne _ _ z]
        refine ⟨h.1, h.2.1, h.2.2.1, dW_up h.2.2.2.1 knd hf (fun t v q => ?_), ?_⟩
        · have h1 := hset (nbb (r.S.getD i.toNatClampNeg 0 ^^^ mask)) t
          have q : va_up d.rv j _ t = some v := q
          rw [q] at h1
          cases z : d.rv t with
          | none => rw [z] at h1; cases h1
          | some v' =>
            rw [z] at h1
            have h2 : v.S.length = v'.S.length := Option.some.inj h1
            rw [h2]
            exact hp t v' z
        · have h1 := usd_up σ.ds k (some (d.first, d.count, va_up d.rv j (some (r.S.set i.toNatClampNeg (nbb (r.S.getD i.toNatClampNeg 0 ^^^ mask)), r.au, r.sm)))) 8 k8
          have h2 : dmB (some ((d.first, d.count, va_up d.rv j (some (r.S.set i.toNatClampNeg (nbb (r.S.getD i.toNatClampNeg 0 ^^^ mask)), r.au, r.sm))) : Dm)) ≤ cbk (dmP d) d.count := by
            refine cbk_mono (fun t => ?_) d.count
            have h1 := hset (nbb (r.S.getD i.toNatClampNeg 0 ^^^ mask)) t
            show blO (((va_up d.rv j (some (r.S.set i.toNatClampNeg (nbb (r.S.getD i.toNatClampNeg 0 ^^^ mask)), r.au, r.sm))) t).map Rv.S) ≤ blO ((d.rv t).map Rv.S)
            generalize va_up d.rv j (some (r.S.set i.toNatClampNeg (nbb (r.S.getD i.toNatClampNeg 0 ^^^ mask)), r.au, r.sm)) t = o at h1 ⊢
            cases o with
            | none => exact Nat.zero_le _
            | some v =>
              cases z : d.rv t with
              | none => rw [z] at h1; cases h1
              | some v' =>
                rw [z] at h1
                have h2 : v.S.length = v'.S.length := Option.some.inj h1
                show blk v.S.length ≤ blk v'.S.length
                rw [h2]
                exact Nat.le_refl _
          have h3 : dmB (σ.ds k) = cbk (dmP d) d.count := by rw [hk]; rfl
          have h4 := h.2.2.2.2
          show usd (va_up σ.ds k (some (d.first, d.count, va_up d.rv j (some (r.S.set i.toNatClampNeg (nbb (r.S.getD i.toNatClampNeg 0 ^^^ mask)), r.au, r.sm))))) 8 ≤ 512
          omega
theorem sW_cut {σ : Sg} {n : Int32} (h : sW σ) : sW (sCut σ n).1 := by
  unfold sCut
  split
  · exact h
  · next q =>
    split
    · exact h
    · next z =>
      refine ⟨fun w e => ?_, fun e => absurd e q, h.2.2⟩
      obtain ⟨j, hj, rfl⟩ := nI_of z
      have e : some (nI j).toNatClampNeg = some w := e
      rw [nI_clamp hj] at e
      cases e
      exact hj
theorem sW_start {σ : Sg} (h : sW σ) : sW (sStart σ).1 := by
  unfold sStart
  split
  · exact ⟨fun _ q => (by cases q), fun q => (by cases q), h.2.2⟩
  · exact h
theorem st_out {σ : Sg} {i : Int32} : (sOut σ i).1 = σ := by unfold sOut; split <;> rfl
theorem st_steps {σ : Sg} : (sSteps σ).1 = σ := by unfold sSteps; split <;> rfl
theorem st_about {σ : Sg} {a w : Int32} : (sAbout σ a w).1 = σ := by
  unfold sAbout
  repeat' split
  all_goals rfl
theorem st_rev {σ : Sg} {a b w : Int32} : (sRev σ a b w).1 = σ := by
  unfold sRev
  repeat' split
  all_goals rfl
theorem st_byte {σ : Sg} {a b i : Int32} : (sByte σ a b i).1 = σ := by
  unfold sByte
  repeat' split
  all_goals rfl
theorem st_verify {σ : Sg} {a : Int32} : (sVerify σ a).1 = σ := by
  unfold sVerify
  repeat' split
  all_goals rfl
theorem st_common {σ : Sg} {a b d w : Int32} : (sCommon σ a b d w).1 = σ := by
  unfold sCommon
  repeat' split
  all_goals rfl
theorem st_free {σ : Sg} : (sFree σ).1 = σ := by unfold sFree; split <;> rfl
