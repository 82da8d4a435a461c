section
def dW (nd : Nat) (ds : Nat → Option Dm) : Prop := ∀ i d, ds i = some d → i < nd ∧ d.first ≤ d.count ∧ ∀ j r, d.rv j = some r → j < d.count ∧ r.S.length ≤ 512
def sW (σ : Sg) : Prop := (∀ w, σ.go = some w → w < 2 ^ 31) ∧ (σ.down = true → σ.go = none) ∧ σ.nd ≤ 8 ∧ dW σ.nd σ.ds ∧ usd σ.ds 8 ≤ 512
theorem sW_of {σ : Sg} (h : sOk σ) : sW σ := ⟨h.go, h.dn, h.nd, fun i d e => ⟨(h.ds i d e).1, (h.ds i d e).2.1, fun j r q => ⟨((h.ds i d e).2.2.2.2 j r q).1, ((h.ds i d e).2.2.2.2 j r q).2.1⟩⟩, h.us⟩
theorem sOk_of {σ : Sg} {x : KX} {ds : Nat → Option Dc} (h : sW σ) (hk : kOk σ x ds) : sOk σ := by
  obtain ⟨h0, h1, h3, h4, h5⟩ := h
  refine sOk.mk h0 h1 ⟨by rw [hk.bu.1.1]; exact hk.bu.2, hk.bu.1.2.2⟩ h3 (fun i d e => ?_) h5 ⟨by rw [hk.fe.1.1]; exact hk.fe.2, hk.fe.1.2.2⟩
  obtain ⟨a1, a2, a3⟩ := h4 i d e
  have e2 := e
  rw [hk.ds] at e2
  unfold dsM at e2
  cases q : ds i with
  | none => rw [q] at e2; cases e2
  | some d' =>
    rw [q] at e2
    cases e2
    refine ⟨a1, a2, (hk.ok i d' q).1, fun j h1 h2 => ?_, fun j r hr => ?_⟩
    · obtain ⟨r, hr⟩ := hk.kp i d' j q h1 h2
      exact ⟨rcM r, by show (d'.rv j).map rcM = _; rw [hr]; rfl⟩
    · refine ⟨(a3 j r hr).1, (a3 j r hr).2, ?_⟩
      have hr : (d'.rv j).map rcM = some r := hr
      cases z : d'.rv j with
      | none => rw [z] at hr; cases hr
      | some r' =>
        rw [z] at hr
        cases hr
        exact ((hk.ok i d' q).2 j r' z).1.2.2
theorem usd_up (ds : Nat → Option Dm) (i : Nat) (o : Option Dm) : ∀ n, i < n → usd (va_up ds i o) n + dmB (ds i) = usd ds n + dmB o
  | 0, h => absurd h (Nat.not_lt_zero i)
  | n + 1, h => by
    rw [usd, usd]
    by_cases q : i = n
    · subst q
      rw [va_up_self]
      have : ∀ m, m ≤ i → usd (va_up ds i o) m = usd ds m := by
        intro m
        induction m with
        | zero => intro _; rfl
        | succ m ih => intro hm; rw [usd, usd, ih (by omega), va_up_ne _ _ (by omega)]
      rw [this i (Nat.le_refl i)]
      omega
    · have := usd_up ds i o n (by omega)
      rw [va_up_ne _ _ (by omega)]
      omega
theorem dW_up {nd i : Nat} {ds : Nat → Option Dm} {d : Dm} (h : dW nd ds) (hi : i < nd) (h1 : d.first ≤ d.count) (h2 : ∀ j r, d.rv j = some r → j < d.count ∧ r.S.length ≤ 512) : dW nd (va_up ds i (some d)) := by
  intro k e q
  by_cases z : k = i
  · subst z
    rw [va_up_self] at q
    cases q
    exact ⟨hi, h1, h2⟩
  · rw [va_up_ne _ _ z] at q
    exact h k e q
theorem dW_dn {nd i : Nat} {ds : Nat → Option Dm} (h : dW nd ds) : dW nd (va_up ds i none) := by
  intro k e q
  by_cases z : k = i
  · subst z
    rw [va_up_self] at q
    cases q
  · rw [va_up_ne _ _ z] at q
    exact h k e q
theorem dW_more {n m : Nat} {ds : Nat → Option Dm} (h : dW n ds) (hm : n ≤ m) : dW m ds := fun i d e => ⟨Nat.lt_of_lt_of_le (h i d e).1 hm, (h i d e).2⟩
theorem cbk_mono {p q : Nat → Option (List Int32)} (h : ∀ j, blO (p j) ≤ blO (q j)) : ∀ n, cbk p n ≤ cbk q n
  | 0 => Nat.le_refl _
  | n + 1 => by
    rw [cbk, cbk]
    have := cbk_mono h n
    have := h n
    omega
theorem sW_go {σ : Sg} {n : Nat} (h : sW σ) (hd : σ.down = false) : (∀ w, σ.go.map (· - n) = some w → w < 2 ^ 31) ∧ (σ.down = true → σ.go.map (· - n) = none) := by
  refine ⟨fun w q => ?_, fun q => absurd (q.symm.trans hd) (by decide)⟩
  cases e : σ.go with
  | none => rw [e] at q; cases q
  | some v =>
    rw [e] at q
    have := h.1 v e
    cases q
    show v - n < 2 ^ 31
    omega
theorem sW_off {σ : Sg} (h : sW σ) : sW (off σ) := ⟨fun _ q => (by cases q), fun _ => rfl, h.2.2⟩
theorem dn_of {σ : Sg} (h : ¬ σ.down = true) : σ.down = false := by
  cases e : σ.down with
  | false => rfl
  | true => exact absurd e h
theorem sW_feed {σ : Sg} {a b c d e : Int32} (h : sW σ) : sW (sFeed σ a b c d e).1 := by
  unfold sFeed
  split
  · exact h
  · split
    · exact h
    · exact h
theorem sW_end {σ : Sg} {n : Int32} (h : sW σ) : sW (sEnd σ n).1 := by
  unfold sEnd
  split
  · exact h
  · split
    · exact h
    · exact h
theorem sW_make {σ : Sg} (h : sW σ) : sW (sMake σ).1 := by
  unfold sMake
  split
  · exact h
  · next hd =>
    split
    · exact h
    · next h8 =>
      split
      · exact sW_off h
      · next τ hsp =>
        obtain ⟨rfl, -⟩ := spend_some hsp
        obtain ⟨g1, g2⟩ := sW_go (n := 1) h (dn_of hd)
        have hn : σ.nd < 8 := by have := h.2.2.1; omega
        refine ⟨g1, g2, hn, dW_up (dW_more h.2.2.2.1 (Nat.le_succ _)) (Nat.lt_succ_self _) (Nat.le_refl _) (fun j r q => by cases q), ?_⟩
        have h1 := usd_up σ.ds σ.nd (some (0, 0, fun _ => none)) 8 hn
        have h2 : dmB (some ((0, 0, fun _ => none) : Dm)) = 0 := rfl
        have h3 := h.2.2.2.2
        show usd (va_up σ.ds σ.nd (some (0, 0, fun _ => none))) 8 ≤ 512
        omega
theorem dGet_i {σ : Sg} {a : Int32} {i : Nat} {d : Dm} (h : sW σ) (hd : dGet σ.ds a = some (i, d)) : i < 8 ∧ i < σ.nd ∧ σ.ds i = some d ∧ d.first ≤ d.count ∧ ∀ j r, d.rv j = some r → j < d.count ∧ r.S.length ≤ 512 := by
  obtain ⟨h1, -, h3⟩ := dGet_some hd
  exact ⟨h1, (h.2.2.2.1 i d h3).1, h3, (h.2.2.2.1 i d h3).2⟩
theorem cbk_add {d : Dm} {v : Rv} : cbk (dmP (d.first, d.count + 1, va_up d.rv d.count (some v))) (d.count + 1) = cbk (dmP d) d.count + blk v.S.length := by
  have e : ∀ n, n ≤ d.count → cbk (dmP (d.first, d.count + 1, va_up d.rv d.count (some v))) n = cbk (dmP d) n := by
    intro n
    induction n with
    | zero => intro _; rfl
    | succ n ih =>
      intro hn
      rw [cbk, cbk, ih (by omega)]
      congr 2
      show ((va_up d.rv d.count (some v)) n).map Rv.S = (d.rv n).map Rv.S
      rw [va_up_ne _ _ (by omega)]
  rw [cbk, e _ (Nat.le_refl _)]
  congr 1
  show blO (((va_up d.rv d.count (some v)) d.count).map Rv.S) = _
  rw [va_up_self]
  rfl
theorem sW_commit {σ : Sg} {a1 a2 : Int32} (hs : sOk σ) : sW (sCommit σ a1 a2).1 := by
  have h := sW_of hs
  unfold sCommit
  split
  · exact h
  · next hd =>
    split
    · exact h
    · next i d hg =>
      split
      · exact h
      · split
        · exact h
        · next B hb =>
          split
          · exact h
          · next hr =>
            split
            · exact sW_off h
            · next τ hsp =>
              obtain ⟨rfl, -⟩ := spend_some hsp
              obtain ⟨g1, g2⟩ := sW_go (n := blk (pce σ.buf B).length + 1) h (dn_of hd)
              obtain ⟨i8, ind, hi, hf, hp⟩ := dGet_i h hg
              refine ⟨g1, g2, h.2.2.1, dW_up h.2.2.2.1 ind (Nat.le_succ_of_le hf) (fun j r q => ?_), ?_⟩
              · by_cases z : j = d.count
                · subst z
                  have q : va_up d.rv d.count _ d.count = some r := q
                  rw [va_up_self] at q
                  cases q
                  have h1 := pce_len σ.buf B
                  have h2 := hs.buf.1
                  exact ⟨Nat.lt_succ_self _, by show (pce σ.buf B).length ≤ 512; omega⟩
                · have q : va_up d.rv d.count _ j = some r := q
                  rw [va_up_ne _ _ z] at q
                  exact ⟨Nat.lt_succ_of_lt (hp j r q).1, (hp j r q).2⟩
              · have h1 := usd_up σ.ds i (some (d.first, d.count + 1, va_up d.rv d.count (some (pce σ.buf B, a2, sumL σ.buf)))) 8 i8
                have h2 : dmB (some ((d.first, d.count + 1, va_up d.rv d.count (some (pce σ.buf B, a2, sumL σ.buf))) : Dm)) = cbk (dmP d) d.count + blk (pce σ.buf B).length := cbk_add (v := (pce σ.buf B, a2, sumL σ.buf))
                have h3 : dmB (σ.ds i) = cbk (dmP d) d.count := by rw [hi]; rfl
                show usd (va_up σ.ds i (some (d.first, d.count + 1, va_up d.rv d.count (some (pce σ.buf B, a2, sumL σ.buf))))) 8 ≤ 512
                omega
theorem sW_fetch {σ : Sg} {a1 a2 : Int32} (h : sW σ) : sW (sFetch σ a1 a2).1 := by
  unfold sFetch
  split
  · exact h
  · split
    · exact h
    · split
      · exact h
      · split
        · exact h
        · exact h
theorem sW_trim {σ : Sg} {a1 a2 : Int32} (h : sW σ) (h64 : ∀ i d, σ.ds i = some d → d.count ≤ 64) : sW (sTrim σ a1 a2).1 := by
  unfold sTrim
  split
  · exact h
  · next hd =>
    split
    · exact h
    · next i d hg =>
      split
      · exact h
      · next ha =>
        split
        · exact sW_off h
        · next τ hsp =>
          obtain ⟨rfl, -⟩ := spend_some hsp
          obtain ⟨g1, g2⟩ := sW_go (n := 1) h (dn_of hd)
          obtain ⟨i8, ind, hi, hf, hp⟩ := dGet_i h hg
          have hc := h64 i d hi
          have hle : a2.toNatClampNeg ≤ d.count := by
            have h1 : ¬ a2 < nI d.first := fun z => ha (Or.inl z)
            have h2 : ¬ nI d.count ≤ a2 := fun z => ha (Or.inr z)
            have h3 : ¬ a2 < 0 := fun z => h1 (Int32.lt_of_lt_of_le z (nI_pos' (by omega)))
            obtain ⟨j, hj, rfl⟩ := nI_of h3
            rw [nI_clamp hj]
            rcases Nat.lt_or_ge j d.count with q | q
            · omega
            · exact absurd (nI_le q hj) h2
          have hcut : ∀ j r, cutA a2.toNatClampNeg d.rv 0 j = some r → d.rv j = some r := by
            intro j r q
            unfold cutA at q
            split at q
            · cases q
            · exact q
          refine ⟨g1, g2, h.2.2.1, dW_up h.2.2.2.1 ind hle (fun j r q => hp j r (hcut j r q)), ?_⟩
          have h1 := usd_up σ.ds i (some (a2.toNatClampNeg, d.count, cutA a2.toNatClampNeg d.rv 0)) 8 i8
          have h2 : dmB (some ((a2.toNatClampNeg, d.count, cutA a2.toNatClampNeg d.rv 0) : Dm)) ≤ cbk (dmP d) d.count := by
            refine cbk_mono (fun j => ?_) d.count
            show blO ((cutA a2.toNatClampNeg d.rv 0 j).map Rv.S) ≤ blO ((d.rv j).map Rv.S)
            unfold cutA
            split
            · exact Nat.zero_le _
            · exact Nat.le_refl _
          have h3 : dmB (σ.ds i) = cbk (dmP d) d.count := by rw [hi]; rfl
          have h4 := h.2.2.2.2
          show usd (va_up σ.ds i (some (a2.toNatClampNeg, d.count, cutA a2.toNatClampNeg d.rv 0))) 8 ≤ 512
          omega
theorem sW_drop {σ : Sg} {a1 : Int32} (h : sW σ) : sW (sDrop σ a1).1 := by
  unfold sDrop
  split
  · exact h
  · next hd =>
    split
    · exact h
    · next i d hg =>
      split
      · exact sW_off h
      · next τ hsp =>
        obtain ⟨rfl, -⟩ := spend_some hsp
        obtain ⟨g1, g2⟩ := sW_go (n := 1) h (dn_of hd)
        obtain ⟨i8, ind, hi, hf, hp⟩ := dGet_i h hg
        refine ⟨g1, g2, h.2.2.1, dW_dn h.2.2.2.1, ?_⟩
        have h1 := usd_up σ.ds i none 8 i8
        have h2 : dmB none = 0 := rfl
        have h4 := h.2.2.2.2
        show usd (va_up σ.ds i none) 8 ≤ 512
        omega
theorem sW_damage {σ : Sg} {a1 a2 i mask : Int32} (h : sW σ) : sW (sDamage σ a1 a2 i mask).1 := by
  unfold sDamage
  split
  · exact h
  · split
    · exact h
    · next k d j r hg =>
      split
      · exact h
      · obtain ⟨hd, hj⟩ : dGet σ.ds a1 = some (k, d) ∧ d.rv j = some r := by
          unfold rGet at hg
          split at hg
          · cases hg
          · next i' d' hd =>
            split at hg
            · cases hg
            · cases e : d'.rv a2.toNatClampNeg with
              | none => rw [e] at hg; cases hg
              | some r' =>
                rw [e] at hg
                cases hg
                exact ⟨hd, e⟩
        obtain ⟨k8, knd, hk, hf, hp⟩ := dGet_i h hd
        have hset : ∀ b : Int32, ∀ t, ((va_up d.rv j (some (r.S.set i.toNatClampNeg b, r.au, r.sm))) t).map (fun v => v.S.length) = (d.rv t).map (fun v => v.S.length) := by
          intro b t
          by_cases z : t = j
          · subst z
            rw [va_up_self, hj]
            show some ((r.S.set i.toNatClampNeg b).length) = some r.S.length
            rw [List.length_set]
          · rw [va_up_ne _ _ z]
        refine ⟨h.1, h.2.1, h.2.2.1, dW_up h.2.2.2.1 knd hf (fun t v q => ?_), ?_⟩
        · have h1 := hset (nbb (r.S.getD i.toNatClampNeg 0 ^^^ mask)) t
          have q : va_up d.rv j _ t = some v := q
          rw [q] at h1
          cases z : d.rv t with
          | none => rw [z] at h1; cases h1
          | some v' =>
            rw [z] at h1
            have h2 : v.S.length = v'.S.length := Option.some.inj h1
            rw [h2]
            exact hp t v' z
        · have h1 := usd_up σ.ds k (some (d.first, d.count, va_up d.rv j (some (r.S.set i.toNatClampNeg (nbb (r.S.getD i.toNatClampNeg 0 ^^^ mask)), r.au, r.sm)))) 8 k8
          have h2 : dmB (some ((d.first, d.count, va_up d.rv j (some (r.S.set i.toNatClampNeg (nbb (r.S.getD i.toNatClampNeg 0 ^^^ mask)), r.au, r.sm))) : Dm)) ≤ cbk (dmP d) d.count := by
            refine cbk_mono (fun t => ?_) d.count
            have h1 := hset (nbb (r.S.getD i.toNatClampNeg 0 ^^^ mask)) t
            show blO (((va_up d.rv j (some (r.S.set i.toNatClampNeg (nbb (r.S.getD i.toNatClampNeg 0 ^^^ mask)), r.au, r.sm))) t).map Rv.S) ≤ blO ((d.rv t).map Rv.S)
            generalize va_up d.rv j (some (r.S.set i.toNatClampNeg (nbb (r.S.getD i.toNatClampNeg 0 ^^^ mask)), r.au, r.sm)) t = o at h1 ⊢
            cases o with
            | none => exact Nat.zero_le _
            | some v =>
              cases z : d.rv t with
              | none => rw [z] at h1; cases h1
              | some v' =>
                rw [z] at h1
                have h2 : v.S.length = v'.S.length := Option.some.inj h1
                show blk v.S.length ≤ blk v'.S.length
                rw [h2]
                exact Nat.le_refl _
          have h3 : dmB (σ.ds k) = cbk (dmP d) d.count := by rw [hk]; rfl
          have h4 := h.2.2.2.2
          show usd (va_up σ.ds k (some (d.first, d.count, va_up d.rv j (some (r.S.set i.toNatClampNeg (nbb (r.S.getD i.toNatClampNeg 0 ^^^ mask)), r.au, r.sm))))) 8 ≤ 512
          omega
theorem sW_cut {σ : Sg} {n : Int32} (h : sW σ) : sW (sCut σ n).1 := by
  unfold sCut
  split
  · exact h
  · next q =>
    split
    · exact h
    · next z =>
      refine ⟨fun w e => ?_, fun e => absurd e q, h.2.2⟩
      obtain ⟨j, hj, rfl⟩ := nI_of z
      have e : some (nI j).toNatClampNeg = some w := e
      rw [nI_clamp hj] at e
      cases e
      exact hj
theorem sW_start {σ : Sg} (h : sW σ) : sW (sStart σ).1 := by
  unfold sStart
  split
  · exact ⟨fun _ q => (by cases q), fun q => (by cases q), h.2.2⟩
  · exact h
theorem st_out {σ : Sg} {i : Int32} : (sOut σ i).1 = σ := by unfold sOut; split <;> rfl
theorem st_steps {σ : Sg} : (sSteps σ).1 = σ := by unfold sSteps; split <;> rfl
theorem st_about {σ : Sg} {a w : Int32} : (sAbout σ a w).1 = σ := by
  unfold sAbout
  repeat' split
  all_goals rfl
theorem st_rev {σ : Sg} {a b w : Int32} : (sRev σ a b w).1 = σ := by
  unfold sRev
  repeat' split
  all_goals rfl
theorem st_byte {σ : Sg} {a b i : Int32} : (sByte σ a b i).1 = σ := by
  unfold sByte
  repeat' split
  all_goals rfl
theorem st_verify {σ : Sg} {a : Int32} : (sVerify σ a).1 = σ := by
  unfold sVerify
  repeat' split
  all_goals rfl
theorem st_common {σ : Sg} {a b d w : Int32} : (sCommon σ a b d w).1 = σ := by
  unfold sCommon
  repeat' split
  all_goals rfl
theorem st_free {σ : Sg} : (sFree σ).1 = σ := by unfold sFree; split <;> rfl
end
section
def sg0 : Sg := (false, none, [], 0, fun _ => none, [], (-1))
theorem sOk_0 : sOk sg0 := sOk.mk (fun _ h => by cases h) (fun h => by cases h) ⟨Nat.zero_le _, fun _ h => by cases h⟩ (Nat.zero_le _) (fun _ _ h => by cases h) (Nat.zero_le _) ⟨Nat.zero_le _, fun _ h => by cases h⟩
abbrev kx0 (hd hb1 hy hf hfy hc hcy hmk hta hty hba hby hwr hrw hp qp : Nat) : KX := (hd, hb1, hy, hf, hfy, hc, hcy, hmk, hta, hty, hba, hby, hwr, hrw, hp, 0, 0, 0, 0, (-1), 0, .ref qp, 0, 0, 0, 0, 0, 0, fun _ => 0, fun _ => 0, fun _ => 0, fun _ => 0, fun _ => 0, fun _ => 0)
theorem kOk_0 (hd hb1 hy hf hfy hc hcy hmk hta hty hba hby hwr hrw hp qp : Nat) : kOk sg0 (kx0 hd hb1 hy hf hfy hc hcy hmk hta hty hba hby hwr hrw hp qp) (fun _ => none) :=
  kOk.mk rfl (fun _ => ⟨rfl, fun w h => by cases h⟩) rfl rfl rfl (fun _ _ h => by cases h) (fun _ _ _ h => by cases h) ⟨tx_nil _, Nat.zero_le _⟩ ⟨tx_nil _, Nat.zero_le _⟩ ⟨[], tx_nil _, Nat.zero_le _⟩ ⟨[], tx_nil _, Nat.zero_le _⟩ ⟨[], tx_nil _, Nat.zero_le _⟩
abbrev my0 (hbu hgo hfi hma hln hau hsu hrow hmade hbase htx9 hot hpc : Nat) (fl : Nat → Int32) : MY := (hbu, hgo, hfi, hma, hln, hau, hsu, hrow, hmade, hbase, htx9, hot, hpc, 0, 0, (-1), 0, 0, 0, 0, (-1), (-1), 0, 0, 0, 0, 0, fun _ => 0, fun _ => 0, fun _ => 0, fun _ => 0, fl, fun _ => 0, fun _ => 0, fun _ => 0, fun _ => 0, fun _ => 0, fun _ => 0, fun _ => 0, fun _ => 0)
theorem pqS_0 : pqS (fun _ => none) = fun _ => none := rfl
theorem cat_0 : ∀ n, cat (fun _ => none) n = []
  | 0 => rfl
  | n + 1 => by
    show fl (pcL (fun _ => none)) n ++ pcL (fun _ => none) n = []
    rw [show fl (pcL (fun _ => none)) n = [] from cat_0 n]
    rfl
theorem mOk_0 (hbu hgo hfi hma hln hau hsu hrow hmade hbase htx9 hot hpc : Nat) (fl : Nat → Int32) (hfl : ∀ i, i < 512 → fl i = (-1)) : mOk sg0 (my0 hbu hgo hfi hma hln hau hsu hrow hmade hbase htx9 hot hpc fl) := by
  refine mOk.mk rfl rfl rfl (tx_nil _) rfl (fun i _ => ⟨fun _ => rfl, fun h => absurd h (Nat.not_lt_zero _), fun _ => rfl⟩) (fun i _ => ⟨fun _ h => (by cases h), fun _ => ⟨rfl, rfl⟩⟩) (fun j hj => ?_) ?_ (fun _ _ _ _ _ _ h => by cases h) (Or.inr ⟨rfl, rfl⟩) rfl
  · show fl j = _
    rw [hfl j hj]
    rfl
  · show rowOk (pqS (fun _ => none)) _
    unfold rowOk
    rw [pqS_0, cat_0]
    unfold sx
    simp
theorem pW_0 (cB cR : ClassId) : pW cB cR (fun _ => none) = [] := rfl
theorem kW_0 (h0 : Nat) (cB cD cR : ClassId) (hd hb1 hy hf hfy hc hcy hmk hta hty hba hby hwr hrw hp qp : Nat) : kW h0 cB cD cR (kx0 hd hb1 hy hf hfy hc hcy hmk hta hty hba hby hwr hrw hp qp) (fun _ => none) = [(h0, .inr (0, [.ref hd, .ref hb1, .ref hf, .ref hc, .ref hmk, .ref hwr, .ref hp, .int 0, .int (-1)])), (hp, .inr (4, [.int 0, .int 0, .int 0])), (hd, .inl (cD, 8, .inr (.inr (.inr (.inr (fun _ => none)))))), (hmk, .inr (2, [.ref hba, .ref hta, .ref qp, .int 0])), (hta, .inr (1, [.ref hty, .int 0])), (hty, .inl (cB, 256, .inl (fun _ => 0))), (hba, .inr (1, [.ref hby, .int 0])), (hby, .inl (cB, 256, .inl (fun _ => 0))), (hwr, .inr (3, [.ref hrw, .int 0])), (hrw, .inl (cB, 512, .inl (fun _ => 0))), (hb1, .inr (1, [.ref hy, .int 0])), (hy, .inl (cB, 256, .inl (fun _ => 0))), (hf, .inr (1, [.ref hfy, .int 0])), (hfy, .inl (cB, 256, .inl (fun _ => 0))), (hc, .inr (1, [.ref hcy, .int 0])), (hcy, .inl (cB, 256, .inl (fun _ => 0)))] := by
  unfold kW
  rw [pW_0, List.append_nil]
  rfl
end
section
def nc_ok (U : State) : Prop := va_Nc "java/lang/IllegalArgumentException" "java/util/NoSuchElementException" U ∧ va_Nc "java/lang/IllegalStateException" "java/util/NoSuchElementException" U ∧ va_Nc "java/lang/IllegalStateException" "java/lang/IllegalArgumentException" U
theorem nc_ok.moved {u U : State} (hvm : u.vm.Alike U.vm) (h : nc_ok u) : nc_ok U := ⟨va_Nc.moved hvm h.1, va_Nc.moved hvm h.2.1, va_Nc.moved hvm h.2.2⟩
end
section
set_option maxHeartbeats 4000000 in
set_option maxRecDepth 100000 in
theorem w_feed (l : Launch) (hl9 : l.stackTraces = false) (dC : Nat → ClassId) (dI : Nat → Nat → Nat) (sz : Nat) (h0 ho : Nat) (cB cD cR cO : ClassId) (fo : Nat → Int64) (x : KX) (ds : Nat → Option Dc) (σ : Sg) (a1 : Int32) (a2 : Int32) (a3 : Int32) (a4 : Int32) (a5 : Int32) (hs : sOk σ) (hk : kOk σ x ds) : Met l y_L_feed k_L_feed ({ frames := 9, cells := 2, slots := 264, locals := 179 } : Room) (va_Pc [.ref h0, .int a1, .int a2, .int a3, .int a4, .int a5, .ref ho] (fun U => pc_E (dC, dI) (([(ho, .inl (cO, 1, .inr (.inl (fo))))] : va_W) ++ kW h0 cB cD cR x ds) [(cO, .long), (cB, .byte), (cD, .object R_D), (cR, .object R_V)] sz U ∧ tw_ok U)) (va_Qi (fun (r : Int32) (_ : Unit) => r = (sFeed σ a1 a2 a3 a4 a5).2.1) (fun (_ : Unit) t => ∃ (fo2 : Nat → Int64) (x2 : KX) (ds2 : Nat → Option Dc), (kOk (sFeed σ a1 a2 a3 a4 a5).1 x2 ds2 ∧ ((sFeed σ a1 a2 a3 a4 a5).2.1 = 0 → fo2 0 = (if (sFeed σ a1 a2 a3 a4 a5).2.2 = 0 then 0 else 1))) ∧ at_E (dC, dI) (va_A (([(ho, .inl (cO, 1, .inr (.inl (fo))))] : va_W) ++ kW h0 cB cD cR x ds) sz) (([(ho, .inl (cO, 1, .inr (.inl (fo2))))] : va_W) ++ kW h0 cB cD cR x2 ds2) [(cO, .long), (cB, .byte), (cD, .object R_D), (cR, .object R_V)] t) (va_A (([(ho, .inl (cO, 1, .inr (.inl (fo))))] : va_W) ++ kW h0 cB cD cR x ds) sz)) 2 264 (va_A (([(ho, .inl (cO, 1, .inr (.inl (fo))))] : va_W) ++ kW h0 cB cD cR x ds) sz) := by
  refine va_MetW (hh := [(0, 23, 26, 13)]) (cc := method_3_code) (maxL := 8) (ret := (some .int)) (by decide) rfl ?_
  intro p e s m args below meth c s₁ B hml hv
  obtain ⟨rfl, ⟨hsz, hP, hK, hD0, hN⟩, hTw⟩ := hv
  have hx := B.exec
  have hb := B.bytes
  have hr := B.returns
  have hts := atoms_spec (ws := k_L_feed) B.pre
  have hw0 : ∀ w ∈ w0, w.before _ s = true := fun w h => hts w (List.mem_cons_of_mem _ h)
  have hown : s.vm.findClass R_L = some m.cls := findClass_of_methodNamed B.named
  have hlocks := B.notSynchronized
  have htab := vx_table (x := y_L_feed) B (hts (.codeWith y_L_feed method_3_code 8 (some .int) [(0, 23, 26, 13)]) List.mem_cons_self)
  subst hsz
  have hD := hD0.self (sz := s.heap.size)
  generalize hAe : va_A (([(ho, .inl (cO, 1, .inr (.inl (fo))))] : va_W) ++ kW h0 cB cD cR x ds) s.heap.size = A at hD ⊢
  have hA : ∀ q : Nat, s.heap.size ≤ q → A q := fun q h => by rw [← hAe]; exact Or.inr h
  clear hAe hD0
  have hS : va_S A s.heap s.heap [] := va_S.rf
  have hl := lv_entry ([.ref h0, .int a1, .int a2, .int a3, .int a4, .int a5, .ref ho]) (n := 8) (Nat.le_of_ble_eq_true rfl)
  rw [lg_entry_eq]
  generalize (lg_sl ([.ref h0, .int a1, .int a2, .int a3, .int a4, .int a5, .ref ho]) ++ List.replicate (8 - (lg_sl ([.ref h0, .int a1, .int a2, .int a3, .int a4, .int a5, .ref ho])).length) Slot.unset).toArray = ls at hl ⊢
  have hl : lv_has ls 8 [(0, .ref h0), (1, .int a1), (2, .int a2), (3, .int a3), (4, .int a4), (5, .int a5), (6, .ref ho)] := hl
  refine lv_aload hx hb d_L_feed_0 (lv_at hl 6 rfl) ?_
  refine lv_iconst (v := 0) hx hb d_L_feed_2 (by decide) ?_
  refine lv_aload_n hx hb d_L_feed_3 rfl (lv_at hl 0 rfl) ?_
  refine lv_iload_n hx hb d_L_feed_4 rfl (lv_at hl 1 rfl) ?_
  refine lv_iload_n hx hb d_L_feed_5 rfl (lv_at hl 2 rfl) ?_
  refine lv_iload_n hx hb d_L_feed_6 rfl (lv_at hl 3 rfl) ?_
  refine lv_iload hx hb d_L_feed_7 (lv_at hl 4 rfl) ?_
  refine lv_iload hx hb d_L_feed_9 (lv_at hl 5 rfl) ?_
  have hPc : va_P (dC, dI) vwCl (kW h0 cB cD cR x ds) s.heap := (hP.perm List.perm_append_comm).left
  have hDc : va_D A (kW h0 cB cD cR x ds) := (hD.perm List.perm_append_comm).left
  have hKc : va_K (dC, dI) vwCl (kT cB cD cR) s := hK.sub [1, 2, 3] rfl
  have hFc : ∀ q : Nat, va_A (kW h0 cB cD cR x ds) s.heap.size q → A q := fr_free hD hS hA List.perm_append_comm
  have hS0 := hS
  refine vx_calli (vx_runV (As := [.int a1, .int a2, .int a3, .int a4, .int a5]) (rest := [.int 0, .ref ho]) ⟨hx, hb, hml, hown, hw0⟩ (kMet.out (k_feed l hl9 dC dI s.heap.size h0 cB cD cR x ds σ a1 a2 a3 a4 a5 hs hk)) (cwV 5 hw0 (gd_Vm wm_517 wm_518 wm_519 wm_308 wm_520) rfl rfl rfl (by decide +kernel) ⟨by decide +kernel, by decide +kernel⟩) (prV_T hPc hKc hDc hN hTw (fun _ _ => rfl) (va_recv hKc hPc (ci := 0) (q0 := 0) rfl rfl)) rfl rfl hl.1 rfl (lv_room (Nat.le_of_ble_eq_true rfl)) d_L_feed_11 ⟨by decide +kernel, by decide +kernel⟩) hS (fun q _ h => hFc q h) hFc (fun q _ h => hFc q h) (fun E ce q9 u t H1 locs ht hvm hw hB hz1 hk1 hS hce hcv hcl => ?_) (fun r u t H1 locs ht hvm hw hB hz1 hk1 hS => ?_)
  · obtain ⟨⟨hne, hE⟩, x2, ds2, hk2, hP1, hK1, hD1⟩ := hB
    rw [ht] at hP1
    obtain ⟨hP, hD⟩ := fr_wld (W2 := (([(ho, .inl (cO, 1, .inr (.inl (fo))))] : va_W) ++ kW h0 cB cD cR x2 ds2)) (A := A) (fun q hq => hA q (Nat.le_trans hS0.1 hq)) hP hD List.perm_append_comm hk1 hP1 hD1 (kz List.perm_append_comm)
    clear hPc hDc hKc hFc hP1 hD1 hK1 hk1 hS0
    have hcd : (sFeed σ a1 a2 a3 a4 a5).2.1 = 1 := cd_feed.resolve_left hne
    have hE : E = "java/lang/IllegalStateException" := hE
    subst hE
    refine vx_catch (name := "java/lang/IllegalStateException") hown [] ⟨0, 23, 26, 13⟩ [] (htab.trans rfl) (fun z hz => by cases hz) (by decide) (by decide) (hw0 (.classLink "TextKeeperLaw" 13 "java/lang/IllegalStateException") wm_6) (va_Nw.use rfl (hN.1 (.castable "java/lang/IllegalStateException" "java/lang/IllegalStateException") (List.mem_of_getElem? (i := 0) rfl))) hce hcv hcl ?_
    refine W.eq (g2 := F0 m 26 ls [.ref q9]) rfl ?_
    generalize H1 = H at hP hS hce ⊢
    refine W.widen (k := 2) (n := 264) (by decide +kernel) (by decide +kernel) ?_
    refine lv_astore (lv' := [(7, .ref q9), (0, .ref h0), (1, .int a1), (2, .int a2), (3, .int a3), (4, .int a4), (5, .int a5), (6, .ref ho)]) hx hb d_L_feed_26 hl (by decide) rfl (fun ls hl => ?_)
    refine lv_iconst (v := 1) hx hb d_L_feed_28 (by decide) ?_
    exact W.iret (v := 1) hx hb hr (fun t ht hW => ⟨⟨1, (), rfl, hcd.symm, fo, x2, ds2, ⟨hk2, fun h => absurd h hne⟩, by rw [ht]; exact hP, va_K.moved hW.alike hK, hD⟩, hS.F ht⟩) hS.2.2 d_L_feed_29
  · obtain ⟨hc0, hr0⟩ : (sFeed σ a1 a2 a3 a4 a5).2.1 = 0 ∧ r = (sFeed σ a1 a2 a3 a4 a5).2.2 := hw
    obtain ⟨x2, ds2, hk2, hP1, hK1, hD1⟩ := hB
    rw [ht] at hP1
    obtain ⟨hP, hD⟩ := fr_wld (W2 := (([(ho, .inl (cO, 1, .inr (.inl (fo))))] : va_W) ++ kW h0 cB cD cR x2 ds2)) (A := A) (fun q hq => hA q (Nat.le_trans hS0.1 hq)) hP hD List.perm_append_comm hk1 hP1 hD1 (kz List.perm_append_comm)
    clear hPc hDc hKc hFc hP1 hD1 hK1 hk1 hS0
    generalize H1 = H at hP hS ⊢
    refine W.widen (k := 2) (n := 264) (by decide +kernel) (by decide +kernel) ?_
    refine lv_if_eq (tgt := 21) hx hb d_L_feed_14 (by decide) (fun c_1 => ?_) (fun c_1 => ?_)
    · refine lv_lconst (v := 0) hx hb d_L_feed_21 (by decide) ?_
      refine va_last hx hb hK hP hD hS 0 0 rfl rfl (by unfold vp_in; decide +kernel) d_L_feed_22 (fun H locs hP hD hS => ?_)
      replace hP : va_P (dC, dI) vwCl (([(ho, .inl (cO, 1, .inr (.inl (vp_updL (fo) (Int32.toNatClampNeg 0) (0)))))] : va_W) ++ kW h0 cB cD cR x2 ds2) H := hP
      replace hD : va_D A (([(ho, .inl (cO, 1, .inr (.inl (vp_updL (fo) (Int32.toNatClampNeg 0) (0)))))] : va_W) ++ kW h0 cB cD cR x2 ds2) := hD
      refine lv_goto (tgt := 30) hx hb d_L_feed_23 (by decide) ?_
      refine lv_iconst (v := 0) hx hb d_L_feed_30 (by decide) ?_
      exact W.iret (v := 0) hx hb hr (fun t ht hW => ⟨⟨0, (), rfl, hc0.symm, (vp_updL (fo) (Int32.toNatClampNeg 0) (0)), x2, ds2, ⟨hk2, fun _ => x_up0.trans (by rw [← hr0]; exact (if_pos c_1).symm)⟩, by rw [ht]; exact hP, va_K.moved hW.alike hK, hD⟩, hS.F ht⟩) hS.2.2 d_L_feed_31
    · refine lv_lconst (v := 1) hx hb d_L_feed_17 (by decide) ?_
      refine lv_goto (tgt := 22) hx hb d_L_feed_18 (by decide) ?_
      refine va_last hx hb hK hP hD hS 0 0 rfl rfl (by unfold vp_in; decide +kernel) d_L_feed_22 (fun H locs hP hD hS => ?_)
      replace hP : va_P (dC, dI) vwCl (([(ho, .inl (cO, 1, .inr (.inl (vp_updL (fo) (Int32.toNatClampNeg 0) (1)))))] : va_W) ++ kW h0 cB cD cR x2 ds2) H := hP
      replace hD : va_D A (([(ho, .inl (cO, 1, .inr (.inl (vp_updL (fo) (Int32.toNatClampNeg 0) (1)))))] : va_W) ++ kW h0 cB cD cR x2 ds2) := hD
      refine lv_goto (tgt := 30) hx hb d_L_feed_23 (by decide) ?_
      refine lv_iconst (v := 0) hx hb d_L_feed_30 (by decide) ?_
      exact W.iret (v := 0) hx hb hr (fun t ht hW => ⟨⟨0, (), rfl, hc0.symm, (vp_updL (fo) (Int32.toNatClampNeg 0) (1)), x2, ds2, ⟨hk2, fun _ => x_up0.trans (by rw [← hr0]; exact (if_neg c_1).symm)⟩, by rw [ht]; exact hP, va_K.moved hW.alike hK, hD⟩, hS.F ht⟩) hS.2.2 d_L_feed_31
set_option maxHeartbeats 4000000 in
set_option maxRecDepth 100000 in
theorem w_end (l : Launch) (hl9 : l.stackTraces = false) (dC : Nat → ClassId) (dI : Nat → Nat → Nat) (sz : Nat) (h0 ho : Nat) (cB cD cR cO : ClassId) (fo : Nat → Int64) (x : KX) (ds : Nat → Option Dc) (σ : Sg) (a1 : Int32) (hs : sOk σ) (hk : kOk σ x ds) : Met l y_L_end k_L_end ({ frames := 9, cells := 2, slots := 264, locals := 179 } : Room) (va_Pc [.ref h0, .int a1, .ref ho] (fun U => pc_E (dC, dI) (([(ho, .inl (cO, 1, .inr (.inl (fo))))] : va_W) ++ kW h0 cB cD cR x ds) [(cO, .long), (cB, .byte), (cD, .object R_D), (cR, .object R_V)] sz U ∧ tw_ok U)) (va_Qi (fun (r : Int32) (_ : Unit) => r = (sEnd σ a1).2.1) (fun (_ : Unit) t => ∃ (fo2 : Nat → Int64) (x2 : KX) (ds2 : Nat → Option Dc), (kOk (sEnd σ a1).1 x2 ds2 ∧ ((sEnd σ a1).2.1 = 0 → fo2 0 = (if (sEnd σ a1).2.2 = 0 then 0 else 1))) ∧ at_E (dC, dI) (va_A (([(ho, .inl (cO, 1, .inr (.inl (fo))))] : va_W) ++ kW h0 cB cD cR x ds) sz) (([(ho, .inl (cO, 1, .inr (.inl (fo2))))] : va_W) ++ kW h0 cB cD cR x2 ds2) [(cO, .long), (cB, .byte), (cD, .object R_D), (cR, .object R_V)] t) (va_A (([(ho, .inl (cO, 1, .inr (.inl (fo))))] : va_W) ++ kW h0 cB cD cR x ds) sz)) 2 264 (va_A (([(ho, .inl (cO, 1, .inr (.inl (fo))))] : va_W) ++ kW h0 cB cD cR x ds) sz) := by
  refine va_MetW (hh := [(0, 16, 19, 13)]) (cc := method_4_code) (maxL := 4) (ret := (some .int)) (by decide) rfl ?_
  intro p e s m args below meth c s₁ B hml hv
  obtain ⟨rfl, ⟨hsz, hP, hK, hD0, hN⟩, hTw⟩ := hv
  have hx := B.exec
  have hb := B.bytes
  have hr := B.returns
  have hts := atoms_spec (ws := k_L_end) B.pre
  have hw0 : ∀ w ∈ w0, w.before _ s = true := fun w h => hts w (List.mem_cons_of_mem _ h)
  have hown : s.vm.findClass R_L = some m.cls := findClass_of_methodNamed B.named
  have hlocks := B.notSynchronized
  have htab := vx_table (x := y_L_end) B (hts (.codeWith y_L_end method_4_code 4 (some .int) [(0, 16, 19, 13)]) List.mem_cons_self)
  subst hsz
  have hD := hD0.self (sz := s.heap.size)
  generalize hAe : va_A (([(ho, .inl (cO, 1, .inr (.inl (fo))))] : va_W) ++ kW h0 cB cD cR x ds) s.heap.size = A at hD ⊢
  have hA : ∀ q : Nat, s.heap.size ≤ q → A q := fun q h => by rw [← hAe]; exact Or.inr h
  clear hAe hD0
  have hS : va_S A s.heap s.heap [] := va_S.rf
  have hl := lv_entry ([.ref h0, .int a1, .ref ho]) (n := 4) (Nat.le_of_ble_eq_true rfl)
  rw [lg_entry_eq]
  generalize (lg_sl ([.ref h0, .int a1, .ref ho]) ++ List.replicate (4 - (lg_sl ([.ref h0, .int a1, .ref ho])).length) Slot.unset).toArray = ls at hl ⊢
  have hl : lv_has ls 4 [(0, .ref h0), (1, .int a1), (2, .ref ho)] := hl
  refine lv_aload_n hx hb d_L_end_0 rfl (lv_at hl 2 rfl) ?_
  refine lv_iconst (v := 0) hx hb d_L_end_1 (by decide) ?_
  refine lv_aload_n hx hb d_L_end_2 rfl (lv_at hl 0 rfl) ?_
  refine lv_iload_n hx hb d_L_end_3 rfl (lv_at hl 1 rfl) ?_
  have hPc : va_P (dC, dI) vwCl (kW h0 cB cD cR x ds) s.heap := (hP.perm List.perm_append_comm).left
  have hDc : va_D A (kW h0 cB cD cR x ds) := (hD.perm List.perm_append_comm).left
  have hKc : va_K (dC, dI) vwCl (kT cB cD cR) s := hK.sub [1, 2, 3] rfl
  have hFc : ∀ q : Nat, va_A (kW h0 cB cD cR x ds) s.heap.size q → A q := fr_free hD hS hA List.perm_append_comm
  have hS0 := hS
  refine vx_calli (vx_runV (As := [.int a1]) (rest := [.int 0, .ref ho]) ⟨hx, hb, hml, hown, hw0⟩ (kMet.out (k_end l hl9 dC dI s.heap.size h0 cB cD cR x ds σ a1 hs hk)) (cwV 1 hw0 (gd_Vm wm_521 wm_522 wm_523 wm_308 wm_524) rfl rfl rfl (by decide +kernel) ⟨by decide +kernel, by decide +kernel⟩) (prV_T hPc hKc hDc hN hTw (fun _ _ => rfl) (va_recv hKc hPc (ci := 0) (q0 := 0) rfl rfl)) rfl rfl hl.1 rfl (lv_room (Nat.le_of_ble_eq_true rfl)) d_L_end_4 ⟨by decide +kernel, by decide +kernel⟩) hS (fun q _ h => hFc q h) hFc (fun q _ h => hFc q h) (fun E ce q9 u t H1 locs ht hvm hw hB hz1 hk1 hS hce hcv hcl => ?_) (fun r u t H1 locs ht hvm hw hB hz1 hk1 hS => ?_)
  · obtain ⟨⟨hne, hE⟩, x2, ds2, hk2, hP1, hK1, hD1⟩ := hB
    rw [ht] at hP1
    obtain ⟨hP, hD⟩ := fr_wld (W2 := (([(ho, .inl (cO, 1, .inr (.inl (fo))))] : va_W) ++ kW h0 cB cD cR x2 ds2)) (A := A) (fun q hq => hA q (Nat.le_trans hS0.1 hq)) hP hD List.perm_append_comm hk1 hP1 hD1 (kz List.perm_append_comm)
    clear hPc hDc hKc hFc hP1 hD1 hK1 hk1 hS0
    have hcd : (sEnd σ a1).2.1 = 1 := cd_end.resolve_left hne
    have hE : E = "java/lang/IllegalStateException" := hE
    subst hE
    refine vx_catch (name := "java/lang/IllegalStateException") hown [] ⟨0, 16, 19, 13⟩ [] (htab.trans rfl) (fun z hz => by cases hz) (by decide) (by decide) (hw0 (.classLink "TextKeeperLaw" 13 "java/lang/IllegalStateException") wm_6) (va_Nw.use rfl (hN.1 (.castable "java/lang/IllegalStateException" "java/lang/IllegalStateException") (List.mem_of_getElem? (i := 0) rfl))) hce hcv hcl ?_
    refine W.eq (g2 := F0 m 19 ls [.ref q9]) rfl ?_
    generalize H1 = H at hP hS hce ⊢
    refine W.widen (k := 2) (n := 264) (by decide +kernel) (by decide +kernel) ?_
    refine lv_astore_n (lv' := [(3, .ref q9), (0, .ref h0), (1, .int a1), (2, .ref ho)]) hx hb d_L_end_19 rfl hl (by decide) rfl (fun ls hl => ?_)
    refine lv_iconst (v := 1) hx hb d_L_end_20 (by decide) ?_
    exact W.iret (v := 1) hx hb hr (fun t ht hW => ⟨⟨1, (), rfl, hcd.symm, fo, x2, ds2, ⟨hk2, fun h => absurd h hne⟩, by rw [ht]; exact hP, va_K.moved hW.alike hK, hD⟩, hS.F ht⟩) hS.2.2 d_L_end_21
  · obtain ⟨hc0, hr0⟩ : (sEnd σ a1).2.1 = 0 ∧ r = (sEnd σ a1).2.2 := hw
    obtain ⟨x2, ds2, hk2, hP1, hK1, hD1⟩ := hB
    rw [ht] at hP1
    obtain ⟨hP, hD⟩ := fr_wld (W2 := (([(ho, .inl (cO, 1, .inr (.inl (fo))))] : va_W) ++ kW h0 cB cD cR x2 ds2)) (A := A) (fun q hq => hA q (Nat.le_trans hS0.1 hq)) hP hD List.perm_append_comm hk1 hP1 hD1 (kz List.perm_append_comm)
    clear hPc hDc hKc hFc hP1 hD1 hK1 hk1 hS0
    generalize H1 = H at hP hS ⊢
    refine W.widen (k := 2) (n := 264) (by decide +kernel) (by decide +kernel) ?_
    refine lv_if_eq (tgt := 14) hx hb d_L_end_7 (by decide) (fun c_1 => ?_) (fun c_1 => ?_)
    · refine lv_lconst (v := 0) hx hb d_L_end_14 (by decide) ?_
      refine va_last hx hb hK hP hD hS 0 0 rfl rfl (by unfold vp_in; decide +kernel) d_L_end_15 (fun H locs hP hD hS => ?_)
      replace hP : va_P (dC, dI) vwCl (([(ho, .inl (cO, 1, .inr (.inl (vp_updL (fo) (Int32.toNatClampNeg 0) (0)))))] : va_W) ++ kW h0 cB cD cR x2 ds2) H := hP
      replace hD : va_D A (([(ho, .inl (cO, 1, .inr (.inl (vp_updL (fo) (Int32.toNatClampNeg 0) (0)))))] : va_W) ++ kW h0 cB cD cR x2 ds2) := hD
      refine lv_goto (tgt := 22) hx hb d_L_end_16 (by decide) ?_
      refine lv_iconst (v := 0) hx hb d_L_end_22 (by decide) ?_
      exact W.iret (v := 0) hx hb hr (fun t ht hW => ⟨⟨0, (), rfl, hc0.symm, (vp_updL (fo) (Int32.toNatClampNeg 0) (0)), x2, ds2, ⟨hk2, fun _ => x_up0.trans (by rw [← hr0]; exact (if_pos c_1).symm)⟩, by rw [ht]; exact hP, va_K.moved hW.alike hK, hD⟩, hS.F ht⟩) hS.2.2 d_L_end_23
    · refine lv_lconst (v := 1) hx hb d_L_end_10 (by decide) ?_
      refine lv_goto (tgt := 15) hx hb d_L_end_11 (by decide) ?_
      refine va_last hx hb hK hP hD hS 0 0 rfl rfl (by unfold vp_in; decide +kernel) d_L_end_15 (fun H locs hP hD hS => ?_)
      replace hP : va_P (dC, dI) vwCl (([(ho, .inl (cO, 1, .inr (.inl (vp_updL (fo) (Int32.toNatClampNeg 0) (1)))))] : va_W) ++ kW h0 cB cD cR x2 ds2) H := hP
      replace hD : va_D A (([(ho, .inl (cO, 1, .inr (.inl (vp_updL (fo) (Int32.toNatClampNeg 0) (1)))))] : va_W) ++ kW h0 cB cD cR x2 ds2) := hD
      refine lv_goto (tgt := 22) hx hb d_L_end_16 (by decide) ?_
      refine lv_iconst (v := 0) hx hb d_L_end_22 (by decide) ?_
      exact W.iret (v := 0) hx hb hr (fun t ht hW => ⟨⟨0, (), rfl, hc0.symm, (vp_updL (fo) (Int32.toNatClampNeg 0) (1)), x2, ds2, ⟨hk2, fun _ => x_up0.trans (by rw [← hr0]; exact (if_neg c_1).symm)⟩, by rw [ht]; exact hP, va_K.moved hW.alike hK, hD⟩, hS.F ht⟩) hS.2.2 d_L_end_23
set_option maxHeartbeats 4000000 in
set_option maxRecDepth 100000 in
theorem w_make (l : Launch) (hl9 : l.stackTraces = false) (dC : Nat → ClassId) (dI : Nat → Nat → Nat) (sz : Nat) (h0 ho : Nat) (cB cD cR cO : ClassId) (fo : Nat → Int64) (x : KX) (ds : Nat → Option Dc) (σ : Sg) (hs : sOk σ) (hk : kOk σ x ds) : Met l y_L_make k_L_make ({ frames := 9, cells := 2, slots := 264, locals := 179 } : Room) (va_Pc [.ref h0, .ref ho] (fun U => pc_E (dC, dI) (([(ho, .inl (cO, 1, .inr (.inl (fo))))] : va_W) ++ kW h0 cB cD cR x ds) [(cO, .long), (cB, .byte), (cD, .object R_D), (cR, .object R_V)] sz U ∧ tw_ok U)) (va_Qi (fun (r : Int32) (_ : Unit) => r = (sMake σ).2.1) (fun (_ : Unit) t => ∃ (fo2 : Nat → Int64) (x2 : KX) (ds2 : Nat → Option Dc), (kOk (sMake σ).1 x2 ds2 ∧ ((sMake σ).2.1 = 0 → fo2 0 = (sMake σ).2.2.toInt64)) ∧ at_E (dC, dI) (va_A (([(ho, .inl (cO, 1, .inr (.inl (fo))))] : va_W) ++ kW h0 cB cD cR x ds) sz) (([(ho, .inl (cO, 1, .inr (.inl (fo2))))] : va_W) ++ kW h0 cB cD cR x2 ds2) [(cO, .long), (cB, .byte), (cD, .object R_D), (cR, .object R_V)] t) (va_A (([(ho, .inl (cO, 1, .inr (.inl (fo))))] : va_W) ++ kW h0 cB cD cR x ds) sz)) 2 264 (va_A (([(ho, .inl (cO, 1, .inr (.inl (fo))))] : va_W) ++ kW h0 cB cD cR x ds) sz) := by
  refine va_MetW (hh := [(0, 8, 11, 13)]) (cc := method_5_code) (maxL := 3) (ret := (some .int)) (by decide) rfl ?_
  intro p e s m args below meth c s₁ B hml hv
  obtain ⟨rfl, ⟨hsz, hP, hK, hD0, hN⟩, hTw⟩ := hv
  have hx := B.exec
  have hb := B.bytes
  have hr := B.returns
  have hts := atoms_spec (ws := k_L_make) B.pre
  have hw0 : ∀ w ∈ w0, w.before _ s = true := fun w h => hts w (List.mem_cons_of_mem _ h)
  have hown : s.vm.findClass R_L = some m.cls := findClass_of_methodNamed B.named
  have hlocks := B.notSynchronized
  have htab := vx_table (x := y_L_make) B (hts (.codeWith y_L_make method_5_code 3 (some .int) [(0, 8, 11, 13)]) List.mem_cons_self)
  subst hsz
  have hD := hD0.self (sz := s.heap.size)
  generalize hAe : va_A (([(ho, .inl (cO, 1, .inr (.inl (fo))))] : va_W) ++ kW h0 cB cD cR x ds) s.heap.size = A at hD ⊢
  have hA : ∀ q : Nat, s.heap.size ≤ q → A q := fun q h => by rw [← hAe]; exact Or.inr h
  clear hAe hD0
  have hS : va_S A s.heap s.heap [] := va_S.rf
  have hl := lv_entry ([.ref h0, .ref ho]) (n := 3) (Nat.le_of_ble_eq_true rfl)
  rw [lg_entry_eq]
  generalize (lg_sl ([.ref h0, .ref ho]) ++ List.replicate (3 - (lg_sl ([.ref h0, .ref ho])).length) Slot.unset).toArray = ls at hl ⊢
  have hl : lv_has ls 3 [(0, .ref h0), (1, .ref ho)] := hl
  refine lv_aload_n hx hb d_L_make_0 rfl (lv_at hl 1 rfl) ?_
  refine lv_iconst (v := 0) hx hb d_L_make_1 (by decide) ?_
  refine lv_aload_n hx hb d_L_make_2 rfl (lv_at hl 0 rfl) ?_
  have hPc : va_P (dC, dI) vwCl (kW h0 cB cD cR x ds) s.heap := (hP.perm List.perm_append_comm).left
  have hDc : va_D A (kW h0 cB cD cR x ds) := (hD.perm List.perm_append_comm).left
  have hKc : va_K (dC, dI) vwCl (kT cB cD cR) s := hK.sub [1, 2, 3] rfl
  have hFc : ∀ q : Nat, va_A (kW h0 cB cD cR x ds) s.heap.size q → A q := fr_free hD hS hA List.perm_append_comm
  have hS0 := hS
  refine vx_calli (vx_runV (As := []) (rest := [.int 0, .ref ho]) ⟨hx, hb, hml, hown, hw0⟩ (kMet.out (k_make l hl9 dC dI s.heap.size h0 cB cD cR x ds σ hs hk)) (cwV 0 hw0 (gd_Vm wm_525 wm_526 wm_527 wm_308 wm_528) rfl rfl rfl (by decide +kernel) ⟨by decide +kernel, by decide +kernel⟩) (prV_T hPc hKc hDc hN hTw (fun _ _ => rfl) (va_recv hKc hPc (ci := 0) (q0 := 0) rfl rfl)) rfl rfl hl.1 rfl (lv_room (Nat.le_of_ble_eq_true rfl)) d_L_make_3 ⟨by decide +kernel, by decide +kernel⟩) hS (fun q _ h => hFc q h) hFc (fun q _ h => hFc q h) (fun E ce q9 u t H1 locs ht hvm hw hB hz1 hk1 hS hce hcv hcl => ?_) (fun r u t H1 locs ht hvm hw hB hz1 hk1 hS => ?_)
  · obtain ⟨⟨hne, hE⟩, x2, ds2, hk2, hP1, hK1, hD1⟩ := hB
    rw [ht] at hP1
    obtain ⟨hP, hD⟩ := fr_wld (W2 := (([(ho, .inl (cO, 1, .inr (.inl (fo))))] : va_W) ++ kW h0 cB cD cR x2 ds2)) (A := A) (fun q hq => hA q (Nat.le_trans hS0.1 hq)) hP hD List.perm_append_comm hk1 hP1 hD1 (kz List.perm_append_comm)
    clear hPc hDc hKc hFc hP1 hD1 hK1 hk1 hS0
    have hcd : (sMake σ).2.1 = 1 := cd_make.resolve_left hne
    have hE : E = "java/lang/IllegalStateException" := hE
    subst hE
    refine vx_catch (name := "java/lang/IllegalStateException") hown [] ⟨0, 8, 11, 13⟩ [] (htab.trans rfl) (fun z hz => by cases hz) (by decide) (by decide) (hw0 (.classLink "TextKeeperLaw" 13 "java/lang/IllegalStateException") wm_6) (va_Nw.use rfl (hN.1 (.castable "java/lang/IllegalStateException" "java/lang/IllegalStateException") (List.mem_of_getElem? (i := 0) rfl))) hce hcv hcl ?_
    refine W.eq (g2 := F0 m 11 ls [.ref q9]) rfl ?_
    generalize H1 = H at hP hS hce ⊢
    refine W.widen (k := 2) (n := 264) (by decide +kernel) (by decide +kernel) ?_
    refine lv_astore_n (lv' := [(2, .ref q9), (0, .ref h0), (1, .ref ho)]) hx hb d_L_make_11 rfl hl (by decide) rfl (fun ls hl => ?_)
    refine lv_iconst (v := 1) hx hb d_L_make_12 (by decide) ?_
    exact W.iret (v := 1) hx hb hr (fun t ht hW => ⟨⟨1, (), rfl, hcd.symm, fo, x2, ds2, ⟨hk2, fun h => absurd h hne⟩, by rw [ht]; exact hP, va_K.moved hW.alike hK, hD⟩, hS.F ht⟩) hS.2.2 d_L_make_13
  · obtain ⟨hc0, hr0⟩ : (sMake σ).2.1 = 0 ∧ r = (sMake σ).2.2 := hw
    obtain ⟨x2, ds2, hk2, hP1, hK1, hD1⟩ := hB
    rw [ht] at hP1
    obtain ⟨hP, hD⟩ := fr_wld (W2 := (([(ho, .inl (cO, 1, .inr (.inl (fo))))] : va_W) ++ kW h0 cB cD cR x2 ds2)) (A := A) (fun q hq => hA q (Nat.le_trans hS0.1 hq)) hP hD List.perm_append_comm hk1 hP1 hD1 (kz List.perm_append_comm)
    clear hPc hDc hKc hFc hP1 hD1 hK1 hk1 hS0
    generalize H1 = H at hP hS ⊢
    refine W.widen (k := 2) (n := 264) (by decide +kernel) (by decide +kernel) ?_
    refine lv_i2l (v := r.toInt64) hx hb d_L_make_6 rfl ?_
    refine va_last hx hb hK hP hD hS 0 0 rfl rfl (by unfold vp_in; decide +kernel) d_L_make_7 (fun H locs hP hD hS => ?_)
    replace hP : va_P (dC, dI) vwCl (([(ho, .inl (cO, 1, .inr (.inl (vp_updL (fo) (Int32.toNatClampNeg 0) (r.toInt64)))))] : va_W) ++ kW h0 cB cD cR x2 ds2) H := hP
    replace hD : va_D A (([(ho, .inl (cO, 1, .inr (.inl (vp_updL (fo) (Int32.toNatClampNeg 0) (r.toInt64)))))] : va_W) ++ kW h0 cB cD cR x2 ds2) := hD
    refine lv_goto (tgt := 14) hx hb d_L_make_8 (by decide) ?_
    refine lv_iconst (v := 0) hx hb d_L_make_14 (by decide) ?_
    exact W.iret (v := 0) hx hb hr (fun t ht hW => ⟨⟨0, (), rfl, hc0.symm, (vp_updL (fo) (Int32.toNatClampNeg 0) (r.toInt64)), x2, ds2, ⟨hk2, fun _ => x_up0.trans (by rw [hr0])⟩, by rw [ht]; exact hP, va_K.moved hW.alike hK, hD⟩, hS.F ht⟩) hS.2.2 d_L_make_15
set_option maxHeartbeats 4000000 in
set_option maxRecDepth 100000 in
theorem w_commit (l : Launch) (hl9 : l.stackTraces = false) (dC : Nat → ClassId) (dI : Nat → Nat → Nat) (sz : Nat) (h0 ho : Nat) (cB cD cR cO : ClassId) (fo : Nat → Int64) (x : KX) (ds : Nat → Option Dc) (σ : Sg) (a1 : Int32) (a2 : Int32) (hs : sOk σ) (hk : kOk σ x ds) : Met l y_L_commit k_L_commit ({ frames := 9, cells := 2, slots := 264, locals := 179 } : Room) (va_Pc [.ref h0, .int a1, .int a2, .ref ho] (fun U => pc_E (dC, dI) (([(ho, .inl (cO, 1, .inr (.inl (fo))))] : va_W) ++ kW h0 cB cD cR x ds) [(cO, .long), (cB, .byte), (cD, .object R_D), (cR, .object R_V)] sz U ∧ tw_ok U)) (va_Qi (fun (r : Int32) (_ : Unit) => r = (sCommit σ a1 a2).2.1) (fun (_ : Unit) t => ∃ (fo2 : Nat → Int64) (x2 : KX) (ds2 : Nat → Option Dc), (kOk (sCommit σ a1 a2).1 x2 ds2 ∧ ((sCommit σ a1 a2).2.1 = 0 → fo2 0 = (sCommit σ a1 a2).2.2.toInt64)) ∧ at_E (dC, dI) (va_A (([(ho, .inl (cO, 1, .inr (.inl (fo))))] : va_W) ++ kW h0 cB cD cR x ds) sz) (([(ho, .inl (cO, 1, .inr (.inl (fo2))))] : va_W) ++ kW h0 cB cD cR x2 ds2) [(cO, .long), (cB, .byte), (cD, .object R_D), (cR, .object R_V)] t) (va_A (([(ho, .inl (cO, 1, .inr (.inl (fo))))] : va_W) ++ kW h0 cB cD cR x ds) sz)) 2 264 (va_A (([(ho, .inl (cO, 1, .inr (.inl (fo))))] : va_W) ++ kW h0 cB cD cR x ds) sz) := by
  refine va_MetW (hh := [(0, 10, 13, 13)]) (cc := method_6_code) (maxL := 5) (ret := (some .int)) (by decide) rfl ?_
  intro p e s m args below meth c s₁ B hml hv
  obtain ⟨rfl, ⟨hsz, hP, hK, hD0, hN⟩, hTw⟩ := hv
  have hx := B.exec
  have hb := B.bytes
  have hr := B.returns
  have hts := atoms_spec (ws := k_L_commit) B.pre
  have hw0 : ∀ w ∈ w0, w.before _ s = true := fun w h => hts w (List.mem_cons_of_mem _ h)
  have hown : s.vm.findClass R_L = some m.cls := findClass_of_methodNamed B.named
  have hlocks := B.notSynchronized
  have htab := vx_table (x := y_L_commit) B (hts (.codeWith y_L_commit method_6_code 5 (some .int) [(0, 10, 13, 13)]) List.mem_cons_self)
  subst hsz
  have hD := hD0.self (sz := s.heap.size)
  generalize hAe : va_A (([(ho, .inl (cO, 1, .inr (.inl (fo))))] : va_W) ++ kW h0 cB cD cR x ds) s.heap.size = A at hD ⊢
  have hA : ∀ q : Nat, s.heap.size ≤ q → A q := fun q h => by rw [← hAe]; exact Or.inr h
  clear hAe hD0
  have hS : va_S A s.heap s.heap [] := va_S.rf
  have hl := lv_entry ([.ref h0, .int a1, .int a2, .ref ho]) (n := 5) (Nat.le_of_ble_eq_true rfl)
  rw [lg_entry_eq]
  generalize (lg_sl ([.ref h0, .int a1, .int a2, .ref ho]) ++ List.replicate (5 - (lg_sl ([.ref h0, .int a1, .int a2, .ref ho])).length) Slot.unset).toArray = ls at hl ⊢
  have hl : lv_has ls 5 [(0, .ref h0), (1, .int a1), (2, .int a2), (3, .ref ho)] := hl
  refine lv_aload_n hx hb d_L_commit_0 rfl (lv_at hl 3 rfl) ?_
  refine lv_iconst (v := 0) hx hb d_L_commit_1 (by decide) ?_
  refine lv_aload_n hx hb d_L_commit_2 rfl (lv_at hl 0 rfl) ?_
  refine lv_iload_n hx hb d_L_commit_3 rfl (lv_at hl 1 rfl) ?_
  refine lv_iload_n hx hb d_L_commit_4 rfl (lv_at hl 2 rfl) ?_
  have hPc : va_P (dC, dI) vwCl (kW h0 cB cD cR x ds) s.heap := (hP.perm List.perm_append_comm).left
  have hDc : va_D A (kW h0 cB cD cR x ds) := (hD.perm List.perm_append_comm).left
  have hKc : va_K (dC, dI) vwCl (kT cB cD cR) s := hK.sub [1, 2, 3] rfl
  have hFc : ∀ q : Nat, va_A (kW h0 cB cD cR x ds) s.heap.size q → A q := fr_free hD hS hA List.perm_append_comm
  have hS0 := hS
  refine vx_calli (vx_runV (As := [.int a1, .int a2]) (rest := [.int 0, .ref ho]) ⟨hx, hb, hml, hown, hw0⟩ (kMet.out (k_commit l hl9 dC dI s.heap.size h0 cB cD cR x ds σ a1 a2 hs hk)) (cwV 2 hw0 (gd_Vm wm_529 wm_530 wm_531 wm_308 wm_532) rfl rfl rfl (by decide +kernel) ⟨by decide +kernel, by decide +kernel⟩) (prV_T hPc hKc hDc hN hTw (fun _ _ => rfl) (va_recv hKc hPc (ci := 0) (q0 := 0) rfl rfl)) rfl rfl hl.1 rfl (lv_room (Nat.le_of_ble_eq_true rfl)) d_L_commit_5 ⟨by decide +kernel, by decide +kernel⟩) hS (fun q _ h => hFc q h) hFc (fun q _ h => hFc q h) (fun E ce q9 u t H1 locs ht hvm hw hB hz1 hk1 hS hce hcv hcl => ?_) (fun r u t H1 locs ht hvm hw hB hz1 hk1 hS => ?_)
  · obtain ⟨⟨hne, hE⟩, x2, ds2, hk2, hP1, hK1, hD1⟩ := hB
    rw [ht] at hP1
    obtain ⟨hP, hD⟩ := fr_wld (W2 := (([(ho, .inl (cO, 1, .inr (.inl (fo))))] : va_W) ++ kW h0 cB cD cR x2 ds2)) (A := A) (fun q hq => hA q (Nat.le_trans hS0.1 hq)) hP hD List.perm_append_comm hk1 hP1 hD1 (kz List.perm_append_comm)
    clear hPc hDc hKc hFc hP1 hD1 hK1 hk1 hS0
    have hcd : (sCommit σ a1 a2).2.1 = 1 := cd_commit.resolve_left hne
    have hE : E = "java/lang/IllegalStateException" := hE
    subst hE
    refine vx_catch (name := "java/lang/IllegalStateException") hown [] ⟨0, 10, 13, 13⟩ [] (htab.trans rfl) (fun z hz => by cases hz) (by decide) (by decide) (hw0 (.classLink "TextKeeperLaw" 13 "java/lang/IllegalStateException") wm_6) (va_Nw.use rfl (hN.1 (.castable "java/lang/IllegalStateException" "java/lang/IllegalStateException") (List.mem_of_getElem? (i := 0) rfl))) hce hcv hcl ?_
    refine W.eq (g2 := F0 m 13 ls [.ref q9]) rfl ?_
    generalize H1 = H at hP hS hce ⊢
    refine W.widen (k := 2) (n := 264) (by decide +kernel) (by decide +kernel) ?_
    refine lv_astore (lv' := [(4, .ref q9), (0, .ref h0), (1, .int a1), (2, .int a2), (3, .ref ho)]) hx hb d_L_commit_13 hl (by decide) rfl (fun ls hl => ?_)
    refine lv_iconst (v := 1) hx hb d_L_commit_15 (by decide) ?_
    exact W.iret (v := 1) hx hb hr (fun t ht hW => ⟨⟨1, (), rfl, hcd.symm, fo, x2, ds2, ⟨hk2, fun h => absurd h hne⟩, by rw [ht]; exact hP, va_K.moved hW.alike hK, hD⟩, hS.F ht⟩) hS.2.2 d_L_commit_16
  · obtain ⟨hc0, hr0⟩ : (sCommit σ a1 a2).2.1 = 0 ∧ r = (sCommit σ a1 a2).2.2 := hw
    obtain ⟨x2, ds2, hk2, hP1, hK1, hD1⟩ := hB
    rw [ht] at hP1
    obtain ⟨hP, hD⟩ := fr_wld (W2 := (([(ho, .inl (cO, 1, .inr (.inl (fo))))] : va_W) ++ kW h0 cB cD cR x2 ds2)) (A := A) (fun q hq => hA q (Nat.le_trans hS0.1 hq)) hP hD List.perm_append_comm hk1 hP1 hD1 (kz List.perm_append_comm)
    clear hPc hDc hKc hFc hP1 hD1 hK1 hk1 hS0
    generalize H1 = H at hP hS ⊢
    refine W.widen (k := 2) (n := 264) (by decide +kernel) (by decide +kernel) ?_
    refine lv_i2l (v := r.toInt64) hx hb d_L_commit_8 rfl ?_
    refine va_last hx hb hK hP hD hS 0 0 rfl rfl (by unfold vp_in; decide +kernel) d_L_commit_9 (fun H locs hP hD hS => ?_)
    replace hP : va_P (dC, dI) vwCl (([(ho, .inl (cO, 1, .inr (.inl (vp_updL (fo) (Int32.toNatClampNeg 0) (r.toInt64)))))] : va_W) ++ kW h0 cB cD cR x2 ds2) H := hP
    replace hD : va_D A (([(ho, .inl (cO, 1, .inr (.inl (vp_updL (fo) (Int32.toNatClampNeg 0) (r.toInt64)))))] : va_W) ++ kW h0 cB cD cR x2 ds2) := hD
    refine lv_goto (tgt := 17) hx hb d_L_commit_10 (by decide) ?_
    refine lv_iconst (v := 0) hx hb d_L_commit_17 (by decide) ?_
    exact W.iret (v := 0) hx hb hr (fun t ht hW => ⟨⟨0, (), rfl, hc0.symm, (vp_updL (fo) (Int32.toNatClampNeg 0) (r.toInt64)), x2, ds2, ⟨hk2, fun _ => x_up0.trans (by rw [hr0])⟩, by rw [ht]; exact hP, va_K.moved hW.alike hK, hD⟩, hS.F ht⟩) hS.2.2 d_L_commit_18
set_option maxHeartbeats 4000000 in
set_option maxRecDepth 100000 in
theorem w_fetch (l : Launch) (hl9 : l.stackTraces = false) (dC : Nat → ClassId) (dI : Nat → Nat → Nat) (sz : Nat) (h0 ho : Nat) (cB cD cR cO : ClassId) (fo : Nat → Int64) (x : KX) (ds : Nat → Option Dc) (σ : Sg) (a1 : Int32) (a2 : Int32) (hs : sOk σ) (hk : kOk σ x ds) : Met l y_L_fetch k_L_fetch ({ frames := 9, cells := 2, slots := 264, locals := 179 } : Room) (va_Pc [.ref h0, .int a1, .int a2, .ref ho] (fun U => pc_E (dC, dI) (([(ho, .inl (cO, 1, .inr (.inl (fo))))] : va_W) ++ kW h0 cB cD cR x ds) [(cO, .long), (cB, .byte), (cD, .object R_D), (cR, .object R_V)] sz U ∧ tw_ok U)) (va_Qi (fun (r : Int32) (_ : Unit) => r = (sFetch σ a1 a2).2.1) (fun (_ : Unit) t => ∃ (fo2 : Nat → Int64) (x2 : KX) (ds2 : Nat → Option Dc), (kOk (sFetch σ a1 a2).1 x2 ds2 ∧ ((sFetch σ a1 a2).2.1 = 0 → fo2 0 = (sFetch σ a1 a2).2.2.toInt64)) ∧ at_E (dC, dI) (va_A (([(ho, .inl (cO, 1, .inr (.inl (fo))))] : va_W) ++ kW h0 cB cD cR x ds) sz) (([(ho, .inl (cO, 1, .inr (.inl (fo2))))] : va_W) ++ kW h0 cB cD cR x2 ds2) [(cO, .long), (cB, .byte), (cD, .object R_D), (cR, .object R_V)] t) (va_A (([(ho, .inl (cO, 1, .inr (.inl (fo))))] : va_W) ++ kW h0 cB cD cR x ds) sz)) 2 264 (va_A (([(ho, .inl (cO, 1, .inr (.inl (fo))))] : va_W) ++ kW h0 cB cD cR x ds) sz) := by
  refine va_MetW (hh := [(0, 10, 13, 13)]) (cc := method_7_code) (maxL := 5) (ret := (some .int)) (by decide) rfl ?_
  intro p e s m args below meth c s₁ B hml hv
  obtain ⟨rfl, ⟨hsz, hP, hK, hD0, hN⟩, hTw⟩ := hv
  have hx := B.exec
  have hb := B.bytes
  have hr := B.returns
  have hts := atoms_spec (ws := k_L_fetch) B.pre
  have hw0 : ∀ w ∈ w0, w.before _ s = true := fun w h => hts w (List.mem_cons_of_mem _ h)
  have hown : s.vm.findClass R_L = some m.cls := findClass_of_methodNamed B.named
  have hlocks := B.notSynchronized
  have htab := vx_table (x := y_L_fetch) B (hts (.codeWith y_L_fetch method_7_code 5 (some .int) [(0, 10, 13, 13)]) List.mem_cons_self)
  subst hsz
  have hD := hD0.self (sz := s.heap.size)
  generalize hAe : va_A (([(ho, .inl (cO, 1, .inr (.inl (fo))))] : va_W) ++ kW h0 cB cD cR x ds) s.heap.size = A at hD ⊢
  have hA : ∀ q : Nat, s.heap.size ≤ q → A q := fun q h => by rw [← hAe]; exact Or.inr h
  clear hAe hD0
  have hS : va_S A s.heap s.heap [] := va_S.rf
  have hl := lv_entry ([.ref h0, .int a1, .int a2, .ref ho]) (n := 5) (Nat.le_of_ble_eq_true rfl)
  rw [lg_entry_eq]
  generalize (lg_sl ([.ref h0, .int a1, .int a2, .ref ho]) ++ List.replicate (5 - (lg_sl ([.ref h0, .int a1, .int a2, .ref ho])).length) Slot.unset).toArray = ls at hl ⊢
  have hl : lv_has ls 5 [(0, .ref h0), (1, .int a1), (2, .int a2), (3, .ref ho)] := hl
  refine lv_aload_n hx hb d_L_fetch_0 rfl (lv_at hl 3 rfl) ?_
  refine lv_iconst (v := 0) hx hb d_L_fetch_1 (by decide) ?_
  refine lv_aload_n hx hb d_L_fetch_2 rfl (lv_at hl 0 rfl) ?_
  refine lv_iload_n hx hb d_L_fetch_3 rfl (lv_at hl 1 rfl) ?_
  refine lv_iload_n hx hb d_L_fetch_4 rfl (lv_at hl 2 rfl) ?_
  have hPc : va_P (dC, dI) vwCl (kW h0 cB cD cR x ds) s.heap := (hP.perm List.perm_append_comm).left
  have hDc : va_D A (kW h0 cB cD cR x ds) := (hD.perm List.perm_append_comm).left
  have hKc : va_K (dC, dI) vwCl (kT cB cD cR) s := hK.sub [1, 2, 3] rfl
  have hFc : ∀ q : Nat, va_A (kW h0 cB cD cR x ds) s.heap.size q → A q := fr_free hD hS hA List.perm_append_comm
  have hS0 := hS
  refine vx_calli (vx_runV (As := [.int a1, .int a2]) (rest := [.int 0, .ref ho]) ⟨hx, hb, hml, hown, hw0⟩ (kMet.out (k_fetch l hl9 dC dI s.heap.size h0 cB cD cR x ds σ a1 a2 hs hk)) (cwV 2 hw0 (gd_Vm wm_533 wm_534 wm_535 wm_308 wm_536) rfl rfl rfl (by decide +kernel) ⟨by decide +kernel, by decide +kernel⟩) (prV_T hPc hKc hDc hN hTw (fun _ _ => rfl) (va_recv hKc hPc (ci := 0) (q0 := 0) rfl rfl)) rfl rfl hl.1 rfl (lv_room (Nat.le_of_ble_eq_true rfl)) d_L_fetch_5 ⟨by decide +kernel, by decide +kernel⟩) hS (fun q _ h => hFc q h) hFc (fun q _ h => hFc q h) (fun E ce q9 u t H1 locs ht hvm hw hB hz1 hk1 hS hce hcv hcl => ?_) (fun r u t H1 locs ht hvm hw hB hz1 hk1 hS => ?_)
  · obtain ⟨⟨hne, hE⟩, x2, ds2, hk2, hP1, hK1, hD1⟩ := hB
    rw [ht] at hP1
    obtain ⟨hP, hD⟩ := fr_wld (W2 := (([(ho, .inl (cO, 1, .inr (.inl (fo))))] : va_W) ++ kW h0 cB cD cR x2 ds2)) (A := A) (fun q hq => hA q (Nat.le_trans hS0.1 hq)) hP hD List.perm_append_comm hk1 hP1 hD1 (kz List.perm_append_comm)
    clear hPc hDc hKc hFc hP1 hD1 hK1 hk1 hS0
    have hcd : (sFetch σ a1 a2).2.1 = 1 := cd_fetch.resolve_left hne
    have hE : E = "java/lang/IllegalStateException" := hE
    subst hE
    refine vx_catch (name := "java/lang/IllegalStateException") hown [] ⟨0, 10, 13, 13⟩ [] (htab.trans rfl) (fun z hz => by cases hz) (by decide) (by decide) (hw0 (.classLink "TextKeeperLaw" 13 "java/lang/IllegalStateException") wm_6) (va_Nw.use rfl (hN.1 (.castable "java/lang/IllegalStateException" "java/lang/IllegalStateException") (List.mem_of_getElem? (i := 0) rfl))) hce hcv hcl ?_
    refine W.eq (g2 := F0 m 13 ls [.ref q9]) rfl ?_
    generalize H1 = H at hP hS hce ⊢
    refine W.widen (k := 2) (n := 264) (by decide +kernel) (by decide +kernel) ?_
    refine lv_astore (lv' := [(4, .ref q9), (0, .ref h0), (1, .int a1), (2, .int a2), (3, .ref ho)]) hx hb d_L_fetch_13 hl (by decide) rfl (fun ls hl => ?_)
    refine lv_iconst (v := 1) hx hb d_L_fetch_15 (by decide) ?_
    exact W.iret (v := 1) hx hb hr (fun t ht hW => ⟨⟨1, (), rfl, hcd.symm, fo, x2, ds2, ⟨hk2, fun h => absurd h hne⟩, by rw [ht]; exact hP, va_K.moved hW.alike hK, hD⟩, hS.F ht⟩) hS.2.2 d_L_fetch_16
  · obtain ⟨hc0, hr0⟩ : (sFetch σ a1 a2).2.1 = 0 ∧ r = (sFetch σ a1 a2).2.2 := hw
    obtain ⟨x2, ds2, hk2, hP1, hK1, hD1⟩ := hB
    rw [ht] at hP1
    obtain ⟨hP, hD⟩ := fr_wld (W2 := (([(ho, .inl (cO, 1, .inr (.inl (fo))))] : va_W) ++ kW h0 cB cD cR x2 ds2)) (A := A) (fun q hq => hA q (Nat.le_trans hS0.1 hq)) hP hD List.perm_append_comm hk1 hP1 hD1 (kz List.perm_append_comm)
    clear hPc hDc hKc hFc hP1 hD1 hK1 hk1 hS0
    generalize H1 = H at hP hS ⊢
    refine W.widen (k := 2) (n := 264) (by decide +kernel) (by decide +kernel) ?_
    refine lv_i2l (v := r.toInt64) hx hb d_L_fetch_8 rfl ?_
    refine va_last hx hb hK hP hD hS 0 0 rfl rfl (by unfold vp_in; decide +kernel) d_L_fetch_9 (fun H locs hP hD hS => ?_)
    replace hP : va_P (dC, dI) vwCl (([(ho, .inl (cO, 1, .inr (.inl (vp_updL (fo) (Int32.toNatClampNeg 0) (r.toInt64)))))] : va_W) ++ kW h0 cB cD cR x2 ds2) H := hP
    replace hD : va_D A (([(ho, .inl (cO, 1, .inr (.inl (vp_updL (fo) (Int32.toNatClampNeg 0) (r.toInt64)))))] : va_W) ++ kW h0 cB cD cR x2 ds2) := hD
    refine lv_goto (tgt := 17) hx hb d_L_fetch_10 (by decide) ?_
    refine lv_iconst (v := 0) hx hb d_L_fetch_17 (by decide) ?_
    exact W.iret (v := 0) hx hb hr (fun t ht hW => ⟨⟨0, (), rfl, hc0.symm, (vp_updL (fo) (Int32.toNatClampNeg 0) (r.toInt64)), x2, ds2, ⟨hk2, fun _ => x_up0.trans (by rw [hr0])⟩, by rw [ht]; exact hP, va_K.moved hW.alike hK, hD⟩, hS.F ht⟩) hS.2.2 d_L_fetch_18
set_option maxHeartbeats 4000000 in
set_option maxRecDepth 100000 in
theorem w_out (l : Launch) (hl9 : l.stackTraces = false) (dC : Nat → ClassId) (dI : Nat → Nat → Nat) (sz : Nat) (h0 ho : Nat) (cB cD cR cO : ClassId) (fo : Nat → Int64) (x : KX) (ds : Nat → Option Dc) (σ : Sg) (a1 : Int32) (hs : sOk σ) (hk : kOk σ x ds) : Met l y_L_out k_L_out ({ frames := 9, cells := 2, slots := 264, locals := 179 } : Room) (va_Pc [.ref h0, .int a1, .ref ho] (fun U => pc_E (dC, dI) (([(ho, .inl (cO, 1, .inr (.inl (fo))))] : va_W) ++ kW h0 cB cD cR x ds) [(cO, .long), (cB, .byte), (cD, .object R_D), (cR, .object R_V)] sz U ∧ tw_ok U)) (va_Qi (fun (r : Int32) (_ : Unit) => r = (sOut σ a1).2.1) (fun (_ : Unit) t => ∃ (fo2 : Nat → Int64) (x2 : KX) (ds2 : Nat → Option Dc), (kOk (sOut σ a1).1 x2 ds2 ∧ ((sOut σ a1).2.1 = 0 → fo2 0 = (sOut σ a1).2.2.toInt64)) ∧ at_E (dC, dI) (va_A (([(ho, .inl (cO, 1, .inr (.inl (fo))))] : va_W) ++ kW h0 cB cD cR x ds) sz) (([(ho, .inl (cO, 1, .inr (.inl (fo2))))] : va_W) ++ kW h0 cB cD cR x2 ds2) [(cO, .long), (cB, .byte), (cD, .object R_D), (cR, .object R_V)] t) (va_A (([(ho, .inl (cO, 1, .inr (.inl (fo))))] : va_W) ++ kW h0 cB cD cR x ds) sz)) 2 264 (va_A (([(ho, .inl (cO, 1, .inr (.inl (fo))))] : va_W) ++ kW h0 cB cD cR x ds) sz) := by
  refine va_MetW (hh := [(0, 9, 12, 13)]) (cc := method_8_code) (maxL := 4) (ret := (some .int)) (by decide) rfl ?_
  intro p e s m args below meth c s₁ B hml hv
  obtain ⟨rfl, ⟨hsz, hP, hK, hD0, hN⟩, hTw⟩ := hv
  have hx := B.exec
  have hb := B.bytes
  have hr := B.returns
  have hts := atoms_spec (ws := k_L_out) B.pre
  have hw0 : ∀ w ∈ w0, w.before _ s = true := fun w h => hts w (List.mem_cons_of_mem _ h)
  have hown : s.vm.findClass R_L = some m.cls := findClass_of_methodNamed B.named
  have hlocks := B.notSynchronized
  have htab := vx_table (x := y_L_out) B (hts (.codeWith y_L_out method_8_code 4 (some .int) [(0, 9, 12, 13)]) List.mem_cons_self)
  subst hsz
  have hD := hD0.self (sz := s.heap.size)
  generalize hAe : va_A (([(ho, .inl (cO, 1, .inr (.inl (fo))))] : va_W) ++ kW h0 cB cD cR x ds) s.heap.size = A at hD ⊢
  have hA : ∀ q : Nat, s.heap.size ≤ q → A q := fun q h => by rw [← hAe]; exact Or.inr h
  clear hAe hD0
  have hS : va_S A s.heap s.heap [] := va_S.rf
  have hl := lv_entry ([.ref h0, .int a1, .ref ho]) (n := 4) (Nat.le_of_ble_eq_true rfl)
  rw [lg_entry_eq]
  generalize (lg_sl ([.ref h0, .int a1, .ref ho]) ++ List.replicate (4 - (lg_sl ([.ref h0, .int a1, .ref ho])).length) Slot.unset).toArray = ls at hl ⊢
  have hl : lv_has ls 4 [(0, .ref h0), (1, .int a1), (2, .ref ho)] := hl
  refine lv_aload_n hx hb d_L_out_0 rfl (lv_at hl 2 rfl) ?_
  refine lv_iconst (v := 0) hx hb d_L_out_1 (by decide) ?_
  refine lv_aload_n hx hb d_L_out_2 rfl (lv_at hl 0 rfl) ?_
  refine lv_iload_n hx hb d_L_out_3 rfl (lv_at hl 1 rfl) ?_
  have hPc : va_P (dC, dI) vwCl (kW h0 cB cD cR x ds) s.heap := (hP.perm List.perm_append_comm).left
  have hDc : va_D A (kW h0 cB cD cR x ds) := (hD.perm List.perm_append_comm).left
  have hKc : va_K (dC, dI) vwCl (kT cB cD cR) s := hK.sub [1, 2, 3] rfl
  have hFc : ∀ q : Nat, va_A (kW h0 cB cD cR x ds) s.heap.size q → A q := fr_free hD hS hA List.perm_append_comm
  have hS0 := hS
  refine vx_calli (vx_runV (As := [.int a1]) (rest := [.int 0, .ref ho]) ⟨hx, hb, hml, hown, hw0⟩ (kMet.out (k_out l hl9 dC dI s.heap.size h0 cB cD cR x ds σ a1 hs hk)) (cwV 1 hw0 (gd_Vm wm_537 wm_538 wm_539 wm_308 wm_540) rfl rfl rfl (by decide +kernel) ⟨by decide +kernel, by decide +kernel⟩) (prV_T hPc hKc hDc hN hTw (fun _ _ => rfl) (va_recv hKc hPc (ci := 0) (q0 := 0) rfl rfl)) rfl rfl hl.1 rfl (lv_room (Nat.le_of_ble_eq_true rfl)) d_L_out_4 ⟨by decide +kernel, by decide +kernel⟩) hS (fun q _ h => hFc q h) hFc (fun q _ h => hFc q h) (fun E ce q9 u t H1 locs ht hvm hw hB hz1 hk1 hS hce hcv hcl => ?_) (fun r u t H1 locs ht hvm hw hB hz1 hk1 hS => ?_)
  · obtain ⟨⟨hne, hE⟩, x2, ds2, hk2, hP1, hK1, hD1⟩ := hB
    rw [ht] at hP1
    obtain ⟨hP, hD⟩ := fr_wld (W2 := (([(ho, .inl (cO, 1, .inr (.inl (fo))))] : va_W) ++ kW h0 cB cD cR x2 ds2)) (A := A) (fun q hq => hA q (Nat.le_trans hS0.1 hq)) hP hD List.perm_append_comm hk1 hP1 hD1 (kz List.perm_append_comm)
    clear hPc hDc hKc hFc hP1 hD1 hK1 hk1 hS0
    have hcd : (sOut σ a1).2.1 = 1 := cd_out.resolve_left hne
    have hE : E = "java/lang/IllegalStateException" := hE
    subst hE
    refine vx_catch (name := "java/lang/IllegalStateException") hown [] ⟨0, 9, 12, 13⟩ [] (htab.trans rfl) (fun z hz => by cases hz) (by decide) (by decide) (hw0 (.classLink "TextKeeperLaw" 13 "java/lang/IllegalStateException") wm_6) (va_Nw.use rfl (hN.1 (.castable "java/lang/IllegalStateException" "java/lang/IllegalStateException") (List.mem_of_getElem? (i := 0) rfl))) hce hcv hcl ?_
    refine W.eq (g2 := F0 m 12 ls [.ref q9]) rfl ?_
    generalize H1 = H at hP hS hce ⊢
    refine W.widen (k := 2) (n := 264) (by decide +kernel) (by decide +kernel) ?_
    refine lv_astore_n (lv' := [(3, .ref q9), (0, .ref h0), (1, .int a1), (2, .ref ho)]) hx hb d_L_out_12 rfl hl (by decide) rfl (fun ls hl => ?_)
    refine lv_iconst (v := 1) hx hb d_L_out_13 (by decide) ?_
    exact W.iret (v := 1) hx hb hr (fun t ht hW => ⟨⟨1, (), rfl, hcd.symm, fo, x2, ds2, ⟨hk2, fun h => absurd h hne⟩, by rw [ht]; exact hP, va_K.moved hW.alike hK, hD⟩, hS.F ht⟩) hS.2.2 d_L_out_14
  · obtain ⟨hc0, hr0⟩ : (sOut σ a1).2.1 = 0 ∧ r = (sOut σ a1).2.2 := hw
    obtain ⟨x2, ds2, hk2, hP1, hK1, hD1⟩ := hB
    rw [ht] at hP1
    obtain ⟨hP, hD⟩ := fr_wld (W2 := (([(ho, .inl (cO, 1, .inr (.inl (fo))))] : va_W) ++ kW h0 cB cD cR x2 ds2)) (A := A) (fun q hq => hA q (Nat.le_trans hS0.1 hq)) hP hD List.perm_append_comm hk1 hP1 hD1 (kz List.perm_append_comm)
    clear hPc hDc hKc hFc hP1 hD1 hK1 hk1 hS0
    generalize H1 = H at hP hS ⊢
    refine W.widen (k := 2) (n := 264) (by decide +kernel) (by decide +kernel) ?_
    refine lv_i2l (v := r.toInt64) hx hb d_L_out_7 rfl ?_
    refine va_last hx hb hK hP hD hS 0 0 rfl rfl (by unfold vp_in; decide +kernel) d_L_out_8 (fun H locs hP hD hS => ?_)
    replace hP : va_P (dC, dI) vwCl (([(ho, .inl (cO, 1, .inr (.inl (vp_updL (fo) (Int32.toNatClampNeg 0) (r.toInt64)))))] : va_W) ++ kW h0 cB cD cR x2 ds2) H := hP
    replace hD : va_D A (([(ho, .inl (cO, 1, .inr (.inl (vp_updL (fo) (Int32.toNatClampNeg 0) (r.toInt64)))))] : va_W) ++ kW h0 cB cD cR x2 ds2) := hD
    refine lv_goto (tgt := 15) hx hb d_L_out_9 (by decide) ?_
    refine lv_iconst (v := 0) hx hb d_L_out_15 (by decide) ?_
    exact W.iret (v := 0) hx hb hr (fun t ht hW => ⟨⟨0, (), rfl, hc0.symm, (vp_updL (fo) (Int32.toNatClampNeg 0) (r.toInt64)), x2, ds2, ⟨hk2, fun _ => x_up0.trans (by rw [hr0])⟩, by rw [ht]; exact hP, va_K.moved hW.alike hK, hD⟩, hS.F ht⟩) hS.2.2 d_L_out_16
set_option maxHeartbeats 4000000 in
set_option maxRecDepth 100000 in
theorem w_steps (l : Launch) (hl9 : l.stackTraces = false) (dC : Nat → ClassId) (dI : Nat → Nat → Nat) (sz : Nat) (h0 ho : Nat) (cB cD cR cO : ClassId) (fo : Nat → Int64) (x : KX) (ds : Nat → Option Dc) (σ : Sg) (hs : sOk σ) (hk : kOk σ x ds) : Met l y_L_steps k_L_steps ({ frames := 9, cells := 2, slots := 264, locals := 179 } : Room) (va_Pc [.ref h0, .ref ho] (fun U => pc_E (dC, dI) (([(ho, .inl (cO, 1, .inr (.inl (fo))))] : va_W) ++ kW h0 cB cD cR x ds) [(cO, .long), (cB, .byte), (cD, .object R_D), (cR, .object R_V)] sz U ∧ tw_ok U)) (va_Qi (fun (r : Int32) (_ : Unit) => r = (sSteps σ).2.1) (fun (_ : Unit) t => ∃ (fo2 : Nat → Int64) (x2 : KX) (ds2 : Nat → Option Dc), (kOk (sSteps σ).1 x2 ds2 ∧ ((sSteps σ).2.1 = 0 → fo2 0 = (sSteps σ).2.2.toInt64)) ∧ at_E (dC, dI) (va_A (([(ho, .inl (cO, 1, .inr (.inl (fo))))] : va_W) ++ kW h0 cB cD cR x ds) sz) (([(ho, .inl (cO, 1, .inr (.inl (fo2))))] : va_W) ++ kW h0 cB cD cR x2 ds2) [(cO, .long), (cB, .byte), (cD, .object R_D), (cR, .object R_V)] t) (va_A (([(ho, .inl (cO, 1, .inr (.inl (fo))))] : va_W) ++ kW h0 cB cD cR x ds) sz)) 2 264 (va_A (([(ho, .inl (cO, 1, .inr (.inl (fo))))] : va_W) ++ kW h0 cB cD cR x ds) sz) := by
  refine va_MetW (hh := [(0, 8, 11, 13)]) (cc := method_9_code) (maxL := 3) (ret := (some .int)) (by decide) rfl ?_
  intro p e s m args below meth c s₁ B hml hv
  obtain ⟨rfl, ⟨hsz, hP, hK, hD0, hN⟩, hTw⟩ := hv
  have hx := B.exec
  have hb := B.bytes
  have hr := B.returns
  have hts := atoms_spec (ws := k_L_steps) B.pre
  have hw0 : ∀ w ∈ w0, w.before _ s = true := fun w h => hts w (List.mem_cons_of_mem _ h)
  have hown : s.vm.findClass R_L = some m.cls := findClass_of_methodNamed B.named
  have hlocks := B.notSynchronized
  have htab := vx_table (x := y_L_steps) B (hts (.codeWith y_L_steps method_9_code 3 (some .int) [(0, 8, 11, 13)]) List.mem_cons_self)
  subst hsz
  have hD := hD0.self (sz := s.heap.size)
  generalize hAe : va_A (([(ho, .inl (cO, 1, .inr (.inl (fo))))] : va_W) ++ kW h0 cB cD cR x ds) s.heap.size = A at hD ⊢
  have hA : ∀ q : Nat, s.heap.size ≤ q → A q := fun q h => by rw [← hAe]; exact Or.inr h
  clear hAe hD0
  have hS : va_S A s.heap s.heap [] := va_S.rf
  have hl := lv_entry ([.ref h0, .ref ho]) (n := 3) (Nat.le_of_ble_eq_true rfl)
  rw [lg_entry_eq]
  generalize (lg_sl ([.ref h0, .ref ho]) ++ List.replicate (3 - (lg_sl ([.ref h0, .ref ho])).length) Slot.unset).toArray = ls at hl ⊢
  have hl : lv_has ls 3 [(0, .ref h0), (1, .ref ho)] := hl
  refine lv_aload_n hx hb d_L_steps_0 rfl (lv_at hl 1 rfl) ?_
  refine lv_iconst (v := 0) hx hb d_L_steps_1 (by decide) ?_
  refine lv_aload_n hx hb d_L_steps_2 rfl (lv_at hl 0 rfl) ?_
  have hPc : va_P (dC, dI) vwCl (kW h0 cB cD cR x ds) s.heap := (hP.perm List.perm_append_comm).left
  have hDc : va_D A (kW h0 cB cD cR x ds) := (hD.perm List.perm_append_comm).left
  have hKc : va_K (dC, dI) vwCl (kT cB cD cR) s := hK.sub [1, 2, 3] rfl
  have hFc : ∀ q : Nat, va_A (kW h0 cB cD cR x ds) s.heap.size q → A q := fr_free hD hS hA List.perm_append_comm
  have hS0 := hS
  refine vx_calli (vx_runV (As := []) (rest := [.int 0, .ref ho]) ⟨hx, hb, hml, hown, hw0⟩ (kMet.out (k_steps l hl9 dC dI s.heap.size h0 cB cD cR x ds σ hs hk)) (cwV 0 hw0 (gd_Vm wm_541 wm_542 wm_543 wm_308 wm_544) rfl rfl rfl (by decide +kernel) ⟨by decide +kernel, by decide +kernel⟩) (prV_T hPc hKc hDc hN hTw (fun _ _ => rfl) (va_recv hKc hPc (ci := 0) (q0 := 0) rfl rfl)) rfl rfl hl.1 rfl (lv_room (Nat.le_of_ble_eq_true rfl)) d_L_steps_3 ⟨by decide +kernel, by decide +kernel⟩) hS (fun q _ h => hFc q h) hFc (fun q _ h => hFc q h) (fun E ce q9 u t H1 locs ht hvm hw hB hz1 hk1 hS hce hcv hcl => ?_) (fun r u t H1 locs ht hvm hw hB hz1 hk1 hS => ?_)
  · obtain ⟨⟨hne, hE⟩, x2, ds2, hk2, hP1, hK1, hD1⟩ := hB
    rw [ht] at hP1
    obtain ⟨hP, hD⟩ := fr_wld (W2 := (([(ho, .inl (cO, 1, .inr (.inl (fo))))] : va_W) ++ kW h0 cB cD cR x2 ds2)) (A := A) (fun q hq => hA q (Nat.le_trans hS0.1 hq)) hP hD List.perm_append_comm hk1 hP1 hD1 (kz List.perm_append_comm)
    clear hPc hDc hKc hFc hP1 hD1 hK1 hk1 hS0
    have hcd : (sSteps σ).2.1 = 1 := cd_steps.resolve_left hne
    have hE : E = "java/lang/IllegalStateException" := hE
    subst hE
    refine vx_catch (name := "java/lang/IllegalStateException") hown [] ⟨0, 8, 11, 13⟩ [] (htab.trans rfl) (fun z hz => by cases hz) (by decide) (by decide) (hw0 (.classLink "TextKeeperLaw" 13 "java/lang/IllegalStateException") wm_6) (va_Nw.use rfl (hN.1 (.castable "java/lang/IllegalStateException" "java/lang/IllegalStateException") (List.mem_of_getElem? (i := 0) rfl))) hce hcv hcl ?_
    refine W.eq (g2 := F0 m 11 ls [.ref q9]) rfl ?_
    generalize H1 = H at hP hS hce ⊢
    refine W.widen (k := 2) (n := 264) (by decide +kernel) (by decide +kernel) ?_
    refine lv_astore_n (lv' := [(2, .ref q9), (0, .ref h0), (1, .ref ho)]) hx hb d_L_steps_11 rfl hl (by decide) rfl (fun ls hl => ?_)
    refine lv_iconst (v := 1) hx hb d_L_steps_12 (by decide) ?_
    exact W.iret (v := 1) hx hb hr (fun t ht hW => ⟨⟨1, (), rfl, hcd.symm, fo, x2, ds2, ⟨hk2, fun h => absurd h hne⟩, by rw [ht]; exact hP, va_K.moved hW.alike hK, hD⟩, hS.F ht⟩) hS.2.2 d_L_steps_13
  · obtain ⟨hc0, hr0⟩ : (sSteps σ).2.1 = 0 ∧ r = (sSteps σ).2.2 := hw
    obtain ⟨x2, ds2, hk2, hP1, hK1, hD1⟩ := hB
    rw [ht] at hP1
    obtain ⟨hP, hD⟩ := fr_wld (W2 := (([(ho, .inl (cO, 1, .inr (.inl (fo))))] : va_W) ++ kW h0 cB cD cR x2 ds2)) (A := A) (fun q hq => hA q (Nat.le_trans hS0.1 hq)) hP hD List.perm_append_comm hk1 hP1 hD1 (kz List.perm_append_comm)
    clear hPc hDc hKc hFc hP1 hD1 hK1 hk1 hS0
    generalize H1 = H at hP hS ⊢
    refine W.widen (k := 2) (n := 264) (by decide +kernel) (by decide +kernel) ?_
    refine lv_i2l (v := r.toInt64) hx hb d_L_steps_6 rfl ?_
    refine va_last hx hb hK hP hD hS 0 0 rfl rfl (by unfold vp_in; decide +kernel) d_L_steps_7 (fun H locs hP hD hS => ?_)
    replace hP : va_P (dC, dI) vwCl (([(ho, .inl (cO, 1, .inr (.inl (vp_updL (fo) (Int32.toNatClampNeg 0) (r.toInt64)))))] : va_W) ++ kW h0 cB cD cR x2 ds2) H := hP
    replace hD : va_D A (([(ho, .inl (cO, 1, .inr (.inl (vp_updL (fo) (Int32.toNatClampNeg 0) (r.toInt64)))))] : va_W) ++ kW h0 cB cD cR x2 ds2) := hD
    refine lv_goto (tgt := 14) hx hb d_L_steps_8 (by decide) ?_
    refine lv_iconst (v := 0) hx hb d_L_steps_14 (by decide) ?_
    exact W.iret (v := 0) hx hb hr (fun t ht hW => ⟨⟨0, (), rfl, hc0.symm, (vp_updL (fo) (Int32.toNatClampNeg 0) (r.toInt64)), x2, ds2, ⟨hk2, fun _ => x_up0.trans (by rw [hr0])⟩, by rw [ht]; exact hP, va_K.moved hW.alike hK, hD⟩, hS.F ht⟩) hS.2.2 d_L_steps_15
set_option maxHeartbeats 4000000 in
set_option maxRecDepth 100000 in
theorem w_trim (l : Launch) (hl9 : l.stackTraces = false) (dC : Nat → ClassId) (dI : Nat → Nat → Nat) (sz : Nat) (h0 ho : Nat) (cB cD cR cO : ClassId) (fo : Nat → Int64) (x : KX) (ds : Nat → Option Dc) (σ : Sg) (a1 : Int32) (a2 : Int32) (hs : sOk σ) (hk : kOk σ x ds) : Met l y_L_trim k_L_trim ({ frames := 9, cells := 2, slots := 264, locals := 179 } : Room) (va_Pc [.ref h0, .int a1, .int a2, .ref ho] (fun U => pc_E (dC, dI) (([(ho, .inl (cO, 1, .inr (.inl (fo))))] : va_W) ++ kW h0 cB cD cR x ds) [(cO, .long), (cB, .byte), (cD, .object R_D), (cR, .object R_V)] sz U ∧ tw_ok U)) (va_Qi (fun (r : Int32) (_ : Unit) => r = (sTrim σ a1 a2).2.1) (fun (_ : Unit) t => ∃ (fo2 : Nat → Int64) (x2 : KX) (ds2 : Nat → Option Dc), (kOk (sTrim σ a1 a2).1 x2 ds2 ∧ ((sTrim σ a1 a2).2.1 = 0 → fo2 0 = (if (sTrim σ a1 a2).2.2 = 0 then 0 else 1))) ∧ at_E (dC, dI) (va_A (([(ho, .inl (cO, 1, .inr (.inl (fo))))] : va_W) ++ kW h0 cB cD cR x ds) sz) (([(ho, .inl (cO, 1, .inr (.inl (fo2))))] : va_W) ++ kW h0 cB cD cR x2 ds2) [(cO, .long), (cB, .byte), (cD, .object R_D), (cR, .object R_V)] t) (va_A (([(ho, .inl (cO, 1, .inr (.inl (fo))))] : va_W) ++ kW h0 cB cD cR x ds) sz)) 2 264 (va_A (([(ho, .inl (cO, 1, .inr (.inl (fo))))] : va_W) ++ kW h0 cB cD cR x ds) sz) := by
  refine va_MetW (hh := [(0, 17, 20, 13)]) (cc := method_10_code) (maxL := 5) (ret := (some .int)) (by decide) rfl ?_
  intro p e s m args below meth c s₁ B hml hv
  obtain ⟨rfl, ⟨hsz, hP, hK, hD0, hN⟩, hTw⟩ := hv
  have hx := B.exec
  have hb := B.bytes
  have hr := B.returns
  have hts := atoms_spec (ws := k_L_trim) B.pre
  have hw0 : ∀ w ∈ w0, w.before _ s = true := fun w h => hts w (List.mem_cons_of_mem _ h)
  have hown : s.vm.findClass R_L = some m.cls := findClass_of_methodNamed B.named
  have hlocks := B.notSynchronized
  have htab := vx_table (x := y_L_trim) B (hts (.codeWith y_L_trim method_10_code 5 (some .int) [(0, 17, 20, 13)]) List.mem_cons_self)
  subst hsz
  have hD := hD0.self (sz := s.heap.size)
  generalize hAe : va_A (([(ho, .inl (cO, 1, .inr (.inl (fo))))] : va_W) ++ kW h0 cB cD cR x ds) s.heap.size = A at hD ⊢
  have hA : ∀ q : Nat, s.heap.size ≤ q → A q := fun q h => by rw [← hAe]; exact Or.inr h
  clear hAe hD0
  have hS : va_S A s.heap s.heap [] := va_S.rf
  have hl := lv_entry ([.ref h0, .int a1, .int a2, .ref ho]) (n := 5) (Nat.le_of_ble_eq_true rfl)
  rw [lg_entry_eq]
  generalize (lg_sl ([.ref h0, .int a1, .int a2, .ref ho]) ++ List.replicate (5 - (lg_sl ([.ref h0, .int a1, .int a2, .ref ho])).length) Slot.unset).toArray = ls at hl ⊢
  have hl : lv_has ls 5 [(0, .ref h0), (1, .int a1), (2, .int a2), (3, .ref ho)] := hl
  refine lv_aload_n hx hb d_L_trim_0 rfl (lv_at hl 3 rfl) ?_
  refine lv_iconst (v := 0) hx hb d_L_trim_1 (by decide) ?_
  refine lv_aload_n hx hb d_L_trim_2 rfl (lv_at hl 0 rfl) ?_
  refine lv_iload_n hx hb d_L_trim_3 rfl (lv_at hl 1 rfl) ?_
  refine lv_iload_n hx hb d_L_trim_4 rfl (lv_at hl 2 rfl) ?_
  have hPc : va_P (dC, dI) vwCl (kW h0 cB cD cR x ds) s.heap := (hP.perm List.perm_append_comm).left
  have hDc : va_D A (kW h0 cB cD cR x ds) := (hD.perm List.perm_append_comm).left
  have hKc : va_K (dC, dI) vwCl (kT cB cD cR) s := hK.sub [1, 2, 3] rfl
  have hFc : ∀ q : Nat, va_A (kW h0 cB cD cR x ds) s.heap.size q → A q := fr_free hD hS hA List.perm_append_comm
  have hS0 := hS
  refine vx_calli (vx_runV (As := [.int a1, .int a2]) (rest := [.int 0, .ref ho]) ⟨hx, hb, hml, hown, hw0⟩ (kMet.out (k_trim l hl9 dC dI s.heap.size h0 cB cD cR x ds σ a1 a2 hs hk)) (cwV 2 hw0 (gd_Vm wm_545 wm_546 wm_547 wm_308 wm_548) rfl rfl rfl (by decide +kernel) ⟨by decide +kernel, by decide +kernel⟩) (prV_T hPc hKc hDc hN hTw (fun _ _ => rfl) (va_recv hKc hPc (ci := 0) (q0 := 0) rfl rfl)) rfl rfl hl.1 rfl (lv_room (Nat.le_of_ble_eq_true rfl)) d_L_trim_5 ⟨by decide +kernel, by decide +kernel⟩) hS (fun q _ h => hFc q h) hFc (fun q _ h => hFc q h) (fun E ce q9 u t H1 locs ht hvm hw hB hz1 hk1 hS hce hcv hcl => ?_) (fun r u t H1 locs ht hvm hw hB hz1 hk1 hS => ?_)
  · obtain ⟨⟨hne, hE⟩, x2, ds2, hk2, hP1, hK1, hD1⟩ := hB
    rw [ht] at hP1
    obtain ⟨hP, hD⟩ := fr_wld (W2 := (([(ho, .inl (cO, 1, .inr (.inl (fo))))] : va_W) ++ kW h0 cB cD cR x2 ds2)) (A := A) (fun q hq => hA q (Nat.le_trans hS0.1 hq)) hP hD List.perm_append_comm hk1 hP1 hD1 (kz List.perm_append_comm)
    clear hPc hDc hKc hFc hP1 hD1 hK1 hk1 hS0
    have hcd : (sTrim σ a1 a2).2.1 = 1 := cd_trim.resolve_left hne
    have hE : E = "java/lang/IllegalStateException" := hE
    subst hE
    refine vx_catch (name := "java/lang/IllegalStateException") hown [] ⟨0, 17, 20, 13⟩ [] (htab.trans rfl) (fun z hz => by cases hz) (by decide) (by decide) (hw0 (.classLink "TextKeeperLaw" 13 "java/lang/IllegalStateException") wm_6) (va_Nw.use rfl (hN.1 (.castable "java/lang/IllegalStateException" "java/lang/IllegalStateException") (List.mem_of_getElem? (i := 0) rfl))) hce hcv hcl ?_
    refine W.eq (g2 := F0 m 20 ls [.ref q9]) rfl ?_
    generalize H1 = H at hP hS hce ⊢
    refine W.widen (k := 2) (n := 264) (by decide +kernel) (by decide +kernel) ?_
    refine lv_astore (lv' := [(4, .ref q9), (0, .ref h0), (1, .int a1), (2, .int a2), (3, .ref ho)]) hx hb d_L_trim_20 hl (by decide) rfl (fun ls hl => ?_)
    refine lv_iconst (v := 1) hx hb d_L_trim_22 (by decide) ?_
    exact W.iret (v := 1) hx hb hr (fun t ht hW => ⟨⟨1, (), rfl, hcd.symm, fo, x2, ds2, ⟨hk2, fun h => absurd h hne⟩, by rw [ht]; exact hP, va_K.moved hW.alike hK, hD⟩, hS.F ht⟩) hS.2.2 d_L_trim_23
  · obtain ⟨hc0, hr0⟩ : (sTrim σ a1 a2).2.1 = 0 ∧ r = (sTrim σ a1 a2).2.2 := hw
    obtain ⟨x2, ds2, hk2, hP1, hK1, hD1⟩ := hB
    rw [ht] at hP1
    obtain ⟨hP, hD⟩ := fr_wld (W2 := (([(ho, .inl (cO, 1, .inr (.inl (fo))))] : va_W) ++ kW h0 cB cD cR x2 ds2)) (A := A) (fun q hq => hA q (Nat.le_trans hS0.1 hq)) hP hD List.perm_append_comm hk1 hP1 hD1 (kz List.perm_append_comm)
    clear hPc hDc hKc hFc hP1 hD1 hK1 hk1 hS0
    generalize H1 = H at hP hS ⊢
    refine W.widen (k := 2) (n := 264) (by decide +kernel) (by decide +kernel) ?_
    refine lv_if_eq (tgt := 15) hx hb d_L_trim_8 (by decide) (fun c_1 => ?_) (fun c_1 => ?_)
    · refine lv_lconst (v := 0) hx hb d_L_trim_15 (by decide) ?_
      refine va_last hx hb hK hP hD hS 0 0 rfl rfl (by unfold vp_in; decide +kernel) d_L_trim_16 (fun H locs hP hD hS => ?_)
      replace hP : va_P (dC, dI) vwCl (([(ho, .inl (cO, 1, .inr (.inl (vp_updL (fo) (Int32.toNatClampNeg 0) (0)))))] : va_W) ++ kW h0 cB cD cR x2 ds2) H := hP
      replace hD : va_D A (([(ho, .inl (cO, 1, .inr (.inl (vp_updL (fo) (Int32.toNatClampNeg 0) (0)))))] : va_W) ++ kW h0 cB cD cR x2 ds2) := hD
      refine lv_goto (tgt := 24) hx hb d_L_trim_17 (by decide) ?_
      refine lv_iconst (v := 0) hx hb d_L_trim_24 (by decide) ?_
      exact W.iret (v := 0) hx hb hr (fun t ht hW => ⟨⟨0, (), rfl, hc0.symm, (vp_updL (fo) (Int32.toNatClampNeg 0) (0)), x2, ds2, ⟨hk2, fun _ => x_up0.trans (by rw [← hr0]; exact (if_pos c_1).symm)⟩, by rw [ht]; exact hP, va_K.moved hW.alike hK, hD⟩, hS.F ht⟩) hS.2.2 d_L_trim_25
    · refine lv_lconst (v := 1) hx hb d_L_trim_11 (by decide) ?_
      refine lv_goto (tgt := 16) hx hb d_L_trim_12 (by decide) ?_
      refine va_last hx hb hK hP hD hS 0 0 rfl rfl (by unfold vp_in; decide +kernel) d_L_trim_16 (fun H locs hP hD hS => ?_)
      replace hP : va_P (dC, dI) vwCl (([(ho, .inl (cO, 1, .inr (.inl (vp_updL (fo) (Int32.toNatClampNeg 0) (1)))))] : va_W) ++ kW h0 cB cD cR x2 ds2) H := hP
      replace hD : va_D A (([(ho, .inl (cO, 1, .inr (.inl (vp_updL (fo) (Int32.toNatClampNeg 0) (1)))))] : va_W) ++ kW h0 cB cD cR x2 ds2) := hD
      refine lv_goto (tgt := 24) hx hb d_L_trim_17 (by decide) ?_
      refine lv_iconst (v := 0) hx hb d_L_trim_24 (by decide) ?_
      exact W.iret (v := 0) hx hb hr (fun t ht hW => ⟨⟨0, (), rfl, hc0.symm, (vp_updL (fo) (Int32.toNatClampNeg 0) (1)), x2, ds2, ⟨hk2, fun _ => x_up0.trans (by rw [← hr0]; exact (if_neg c_1).symm)⟩, by rw [ht]; exact hP, va_K.moved hW.alike hK, hD⟩, hS.F ht⟩) hS.2.2 d_L_trim_25
set_option maxHeartbeats 4000000 in
set_option maxRecDepth 100000 in
theorem w_dropDocument (l : Launch) (hl9 : l.stackTraces = false) (dC : Nat → ClassId) (dI : Nat → Nat → Nat) (sz : Nat) (h0 ho : Nat) (cB cD cR cO : ClassId) (fo : Nat → Int64) (x : KX) (ds : Nat → Option Dc) (σ : Sg) (a1 : Int32) (hs : sOk σ) (hk : kOk σ x ds) : Met l y_L_dropDocument k_L_dropDocument ({ frames := 9, cells := 2, slots := 264, locals := 179 } : Room) (va_Pc [.ref h0, .int a1, .ref ho] (fun U => pc_E (dC, dI) (([(ho, .inl (cO, 1, .inr (.inl (fo))))] : va_W) ++ kW h0 cB cD cR x ds) [(cO, .long), (cB, .byte), (cD, .object R_D), (cR, .object R_V)] sz U ∧ tw_ok U)) (va_Qi (fun (r : Int32) (_ : Unit) => r = (sDrop σ a1).2.1) (fun (_ : Unit) t => ∃ (fo2 : Nat → Int64) (x2 : KX) (ds2 : Nat → Option Dc), (kOk (sDrop σ a1).1 x2 ds2 ∧ ((sDrop σ a1).2.1 = 0 → fo2 0 = (if (sDrop σ a1).2.2 = 0 then 0 else 1))) ∧ at_E (dC, dI) (va_A (([(ho, .inl (cO, 1, .inr (.inl (fo))))] : va_W) ++ kW h0 cB cD cR x ds) sz) (([(ho, .inl (cO, 1, .inr (.inl (fo2))))] : va_W) ++ kW h0 cB cD cR x2 ds2) [(cO, .long), (cB, .byte), (cD, .object R_D), (cR, .object R_V)] t) (va_A (([(ho, .inl (cO, 1, .inr (.inl (fo))))] : va_W) ++ kW h0 cB cD cR x ds) sz)) 2 264 (va_A (([(ho, .inl (cO, 1, .inr (.inl (fo))))] : va_W) ++ kW h0 cB cD cR x ds) sz) := by
  refine va_MetW (hh := [(0, 16, 19, 13)]) (cc := method_11_code) (maxL := 4) (ret := (some .int)) (by decide) rfl ?_
  intro p e s m args below meth c s₁ B hml hv
  obtain ⟨rfl, ⟨hsz, hP, hK, hD0, hN⟩, hTw⟩ := hv
  have hx := B.exec
  have hb := B.bytes
  have hr := B.returns
  have hts := atoms_spec (ws := k_L_dropDocument) B.pre
  have hw0 : ∀ w ∈ w0, w.before _ s = true := fun w h => hts w (List.mem_cons_of_mem _ h)
  have hown : s.vm.findClass R_L = some m.cls := findClass_of_methodNamed B.named
  have hlocks := B.notSynchronized
  have htab := vx_table (x := y_L_dropDocument) B (hts (.codeWith y_L_dropDocument method_11_code 4 (some .int) [(0, 16, 19, 13)]) List.mem_cons_self)
  subst hsz
  have hD := hD0.self (sz := s.heap.size)
  generalize hAe : va_A (([(ho, .inl (cO, 1, .inr (.inl (fo))))] : va_W) ++ kW h0 cB cD cR x ds) s.heap.size = A at hD ⊢
  have hA : ∀ q : Nat, s.heap.size ≤ q → A q := fun q h => by rw [← hAe]; exact Or.inr h
  clear hAe hD0
  have hS : va_S A s.heap s.heap [] := va_S.rf
  have hl := lv_entry ([.ref h0, .int a1, .ref ho]) (n := 4) (Nat.le_of_ble_eq_true rfl)
  rw [lg_entry_eq]
  generalize (lg_sl ([.ref h0, .int a1, .ref ho]) ++ List.replicate (4 - (lg_sl ([.ref h0, .int a1, .ref ho])).length) Slot.unset).toArray = ls at hl ⊢
  have hl : lv_has ls 4 [(0, .ref h0), (1, .int a1), (2, .ref ho)] := hl
  refine lv_aload_n hx hb d_L_dropDocument_0 rfl (lv_at hl 2 rfl) ?_
  refine lv_iconst (v := 0) hx hb d_L_dropDocument_1 (by decide) ?_
  refine lv_aload_n hx hb d_L_dropDocument_2 rfl (lv_at hl 0 rfl) ?_
  refine lv_iload_n hx hb d_L_dropDocument_3 rfl (lv_at hl 1 rfl) ?_
  have hPc : va_P (dC, dI) vwCl (kW h0 cB cD cR x ds) s.heap := (hP.perm List.perm_append_comm).left
  have hDc : va_D A (kW h0 cB cD cR x ds) := (hD.perm List.perm_append_comm).left
  have hKc : va_K (dC, dI) vwCl (kT cB cD cR) s := hK.sub [1, 2, 3] rfl
  have hFc : ∀ q : Nat, va_A (kW h0 cB cD cR x ds) s.heap.size q → A q := fr_free hD hS hA List.perm_append_comm
  have hS0 := hS
  refine vx_calli (vx_runV (As := [.int a1]) (rest := [.int 0, .ref ho]) ⟨hx, hb, hml, hown, hw0⟩ (kMet.out (k_dropDocument l hl9 dC dI s.heap.size h0 cB cD cR x ds σ a1 hs hk)) (cwV 1 hw0 (gd_Vm wm_549 wm_550 wm_551 wm_308 wm_552) rfl rfl rfl (by decide +kernel) ⟨by decide +kernel, by decide +kernel⟩) (prV_T hPc hKc hDc hN hTw (fun _ _ => rfl) (va_recv hKc hPc (ci := 0) (q0 := 0) rfl rfl)) rfl rfl hl.1 rfl (lv_room (Nat.le_of_ble_eq_true rfl)) d_L_dropDocument_4 ⟨by decide +kernel, by decide +kernel⟩) hS (fun q _ h => hFc q h) hFc (fun q _ h => hFc q h) (fun E ce q9 u t H1 locs ht hvm hw hB hz1 hk1 hS hce hcv hcl => ?_) (fun r u t H1 locs ht hvm hw hB hz1 hk1 hS => ?_)
  · obtain ⟨⟨hne, hE⟩, x2, ds2, hk2, hP1, hK1, hD1⟩ := hB
    rw [ht] at hP1
    obtain ⟨hP, hD⟩ := fr_wld (W2 := (([(ho, .inl (cO, 1, .inr (.inl (fo))))] : va_W) ++ kW h0 cB cD cR x2 ds2)) (A := A) (fun q hq => hA q (Nat.le_trans hS0.1 hq)) hP hD List.perm_append_comm hk1 hP1 hD1 (kz List.perm_append_comm)
    clear hPc hDc hKc hFc hP1 hD1 hK1 hk1 hS0
    have hcd : (sDrop σ a1).2.1 = 1 := cd_dropDocument.resolve_left hne
    have hE : E = "java/lang/IllegalStateException" := hE
    subst hE
    refine vx_catch (name := "java/lang/IllegalStateException") hown [] ⟨0, 16, 19, 13⟩ [] (htab.trans rfl) (fun z hz => by cases hz) (by decide) (by decide) (hw0 (.classLink "TextKeeperLaw" 13 "java/lang/IllegalStateException") wm_6) (va_Nw.use rfl (hN.1 (.castable "java/lang/IllegalStateException" "java/lang/IllegalStateException") (List.mem_of_getElem? (i := 0) rfl))) hce hcv hcl ?_
    refine W.eq (g2 := F0 m 19 ls [.ref q9]) rfl ?_
    generalize H1 = H at hP hS hce ⊢
    refine W.widen (k := 2) (n := 264) (by decide +kernel) (by decide +kernel) ?_
    refine lv_astore_n (lv' := [(3, .ref q9), (0, .ref h0), (1, .int a1), (2, .ref ho)]) hx hb d_L_dropDocument_19 rfl hl (by decide) rfl (fun ls hl => ?_)
    refine lv_iconst (v := 1) hx hb d_L_dropDocument_20 (by decide) ?_
    exact W.iret (v := 1) hx hb hr (fun t ht hW => ⟨⟨1, (), rfl, hcd.symm, fo, x2, ds2, ⟨hk2, fun h => absurd h hne⟩, by rw [ht]; exact hP, va_K.moved hW.alike hK, hD⟩, hS.F ht⟩) hS.2.2 d_L_dropDocument_21
  · obtain ⟨hc0, hr0⟩ : (sDrop σ a1).2.1 = 0 ∧ r = (sDrop σ a1).2.2 := hw
    obtain ⟨x2, ds2, hk2, hP1, hK1, hD1⟩ := hB
    rw [ht] at hP1
    obtain ⟨hP, hD⟩ := fr_wld (W2 := (([(ho, .inl (cO, 1, .inr (.inl (fo))))] : va_W) ++ kW h0 cB cD cR x2 ds2)) (A := A) (fun q hq => hA q (Nat.le_trans hS0.1 hq)) hP hD List.perm_append_comm hk1 hP1 hD1 (kz List.perm_append_comm)
    clear hPc hDc hKc hFc hP1 hD1 hK1 hk1 hS0
    generalize H1 = H at hP hS ⊢
    refine W.widen (k := 2) (n := 264) (by decide +kernel) (by decide +kernel) ?_
    refine lv_if_eq (tgt := 14) hx hb d_L_dropDocument_7 (by decide) (fun c_1 => ?_) (fun c_1 => ?_)
    · refine lv_lconst (v := 0) hx hb d_L_dropDocument_14 (by decide) ?_
      refine va_last hx hb hK hP hD hS 0 0 rfl rfl (by unfold vp_in; decide +kernel) d_L_dropDocument_15 (fun H locs hP hD hS => ?_)
      replace hP : va_P (dC, dI) vwCl (([(ho, .inl (cO, 1, .inr (.inl (vp_updL (fo) (Int32.toNatClampNeg 0) (0)))))] : va_W) ++ kW h0 cB cD cR x2 ds2) H := hP
      replace hD : va_D A (([(ho, .inl (cO, 1, .inr (.inl (vp_updL (fo) (Int32.toNatClampNeg 0) (0)))))] : va_W) ++ kW h0 cB cD cR x2 ds2) := hD
      refine lv_goto (tgt := 22) hx hb d_L_dropDocument_16 (by decide) ?_
      refine lv_iconst (v := 0) hx hb d_L_dropDocument_22 (by decide) ?_
      exact W.iret (v := 0) hx hb hr (fun t ht hW => ⟨⟨0, (), rfl, hc0.symm, (vp_updL (fo) (Int32.toNatClampNeg 0) (0)), x2, ds2, ⟨hk2, fun _ => x_up0.trans (by rw [← hr0]; exact (if_pos c_1).symm)⟩, by rw [ht]; exact hP, va_K.moved hW.alike hK, hD⟩, hS.F ht⟩) hS.2.2 d_L_dropDocument_23
    · refine lv_lconst (v := 1) hx hb d_L_dropDocument_10 (by decide) ?_
      refine lv_goto (tgt := 15) hx hb d_L_dropDocument_11 (by decide) ?_
      refine va_last hx hb hK hP hD hS 0 0 rfl rfl (by unfold vp_in; decide +kernel) d_L_dropDocument_15 (fun H locs hP hD hS => ?_)
      replace hP : va_P (dC, dI) vwCl (([(ho, .inl (cO, 1, .inr (.inl (vp_updL (fo) (Int32.toNatClampNeg 0) (1)))))] : va_W) ++ kW h0 cB cD cR x2 ds2) H := hP
      replace hD : va_D A (([(ho, .inl (cO, 1, .inr (.inl (vp_updL (fo) (Int32.toNatClampNeg 0) (1)))))] : va_W) ++ kW h0 cB cD cR x2 ds2) := hD
      refine lv_goto (tgt := 22) hx hb d_L_dropDocument_16 (by decide) ?_
      refine lv_iconst (v := 0) hx hb d_L_dropDocument_22 (by decide) ?_
      exact W.iret (v := 0) hx hb hr (fun t ht hW => ⟨⟨0, (), rfl, hc0.symm, (vp_updL (fo) (Int32.toNatClampNeg 0) (1)), x2, ds2, ⟨hk2, fun _ => x_up0.trans (by rw [← hr0]; exact (if_neg c_1).symm)⟩, by rw [ht]; exact hP, va_K.moved hW.alike hK, hD⟩, hS.F ht⟩) hS.2.2 d_L_dropDocument_23
set_option maxHeartbeats 4000000 in
set_option maxRecDepth 100000 in
theorem w_about (l : Launch) (hl9 : l.stackTraces = false) (dC : Nat → ClassId) (dI : Nat → Nat → Nat) (sz : Nat) (h0 ho : Nat) (cB cD cR cO : ClassId) (fo : Nat → Int64) (x : KX) (ds : Nat → Option Dc) (σ : Sg) (a1 : Int32) (a2 : Int32) (hs : sOk σ) (hk : kOk σ x ds) : Met l y_L_about k_L_about ({ frames := 9, cells := 2, slots := 264, locals := 179 } : Room) (va_Pc [.ref h0, .int a1, .int a2, .ref ho] (fun U => pc_E (dC, dI) (([(ho, .inl (cO, 1, .inr (.inl (fo))))] : va_W) ++ kW h0 cB cD cR x ds) [(cO, .long), (cB, .byte), (cD, .object R_D), (cR, .object R_V)] sz U ∧ tw_ok U ∧ nc_ok U)) (va_Qi (fun (r : Int32) (_ : Unit) => r = (sAbout σ a1 a2).2.1) (fun (_ : Unit) t => ∃ (fo2 : Nat → Int64) (x2 : KX) (ds2 : Nat → Option Dc), (kOk (sAbout σ a1 a2).1 x2 ds2 ∧ ((sAbout σ a1 a2).2.1 = 0 → fo2 0 = (sAbout σ a1 a2).2.2.toInt64)) ∧ at_E (dC, dI) (va_A (([(ho, .inl (cO, 1, .inr (.inl (fo))))] : va_W) ++ kW h0 cB cD cR x ds) sz) (([(ho, .inl (cO, 1, .inr (.inl (fo2))))] : va_W) ++ kW h0 cB cD cR x2 ds2) [(cO, .long), (cB, .byte), (cD, .object R_D), (cR, .object R_V)] t) (va_A (([(ho, .inl (cO, 1, .inr (.inl (fo))))] : va_W) ++ kW h0 cB cD cR x ds) sz)) 2 264 (va_A (([(ho, .inl (cO, 1, .inr (.inl (fo))))] : va_W) ++ kW h0 cB cD cR x ds) sz) := by
  refine va_MetW (hh := [(0, 10, 13, 47), (0, 10, 17, 49), (0, 10, 21, 13)]) (cc := method_12_code) (maxL := 5) (ret := (some .int)) (by decide) rfl ?_
  intro p e s m args below meth c s₁ B hml hv
  obtain ⟨rfl, ⟨hsz, hP, hK, hD0, hN⟩, hTw, hnc⟩ := hv
  have hx := B.exec
  have hb := B.bytes
  have hr := B.returns
  have hts := atoms_spec (ws := k_L_about) B.pre
  have hw0 : ∀ w ∈ w0, w.before _ s = true := fun w h => hts w (List.mem_cons_of_mem _ h)
  have hown : s.vm.findClass R_L = some m.cls := findClass_of_methodNamed B.named
  have hlocks := B.notSynchronized
  have htab := vx_table (x := y_L_about) B (hts (.codeWith y_L_about method_12_code 5 (some .int) [(0, 10, 13, 47), (0, 10, 17, 49), (0, 10, 21, 13)]) List.mem_cons_self)
  subst hsz
  have hD := hD0.self (sz := s.heap.size)
  generalize hAe : va_A (([(ho, .inl (cO, 1, .inr (.inl (fo))))] : va_W) ++ kW h0 cB cD cR x ds) s.heap.size = A at hD ⊢
  have hA : ∀ q : Nat, s.heap.size ≤ q → A q := fun q h => by rw [← hAe]; exact Or.inr h
  clear hAe hD0
  have hS : va_S A s.heap s.heap [] := va_S.rf
  have hl := lv_entry ([.ref h0, .int a1, .int a2, .ref ho]) (n := 5) (Nat.le_of_ble_eq_true rfl)
  rw [lg_entry_eq]
  generalize (lg_sl ([.ref h0, .int a1, .int a2, .ref ho]) ++ List.replicate (5 - (lg_sl ([.ref h0, .int a1, .int a2, .ref ho])).length) Slot.unset).toArray = ls at hl ⊢
  have hl : lv_has ls 5 [(0, .ref h0), (1, .int a1), (2, .int a2), (3, .ref ho)] := hl
  refine lv_aload_n hx hb d_L_about_0 rfl (lv_at hl 3 rfl) ?_
  refine lv_iconst (v := 0) hx hb d_L_about_1 (by decide) ?_
  refine lv_aload_n hx hb d_L_about_2 rfl (lv_at hl 0 rfl) ?_
  refine lv_iload_n hx hb d_L_about_3 rfl (lv_at hl 1 rfl) ?_
  refine lv_iload_n hx hb d_L_about_4 rfl (lv_at hl 2 rfl) ?_
  have hPc : va_P (dC, dI) vwCl (kW h0 cB cD cR x ds) s.heap := (hP.perm List.perm_append_comm).left
  have hDc : va_D A (kW h0 cB cD cR x ds) := (hD.perm List.perm_append_comm).left
  have hKc : va_K (dC, dI) vwCl (kT cB cD cR) s := hK.sub [1, 2, 3] rfl
  have hFc : ∀ q : Nat, va_A (kW h0 cB cD cR x ds) s.heap.size q → A q := fr_free hD hS hA List.perm_append_comm
  have hS0 := hS
  refine vx_calli (vx_runV (As := [.int a1, .int a2]) (rest := [.int 0, .ref ho]) ⟨hx, hb, hml, hown, hw0⟩ (kMet.out (k_about l hl9 dC dI s.heap.size h0 cB cD cR x ds σ a1 a2 hs hk)) (cwV 2 hw0 (gd_Vm wm_553 wm_554 wm_555 wm_308 wm_556) rfl rfl rfl (by decide +kernel) ⟨by decide +kernel, by decide +kernel⟩) (prV_T hPc hKc hDc hN hTw (fun _ _ => rfl) (va_recv hKc hPc (ci := 0) (q0 := 0) rfl rfl)) rfl rfl hl.1 rfl (lv_room (Nat.le_of_ble_eq_true rfl)) d_L_about_5 ⟨by decide +kernel, by decide +kernel⟩) hS (fun q _ h => hFc q h) hFc (fun q _ h => hFc q h) (fun E ce q9 u t H1 locs ht hvm hw hB hz1 hk1 hS hce hcv hcl => ?_) (fun r u t H1 locs ht hvm hw hB hz1 hk1 hS => ?_)
  · obtain ⟨⟨hne, hE⟩, x2, ds2, hk2, hP1, hK1, hD1⟩ := hB
    rw [ht] at hP1
    obtain ⟨hP, hD⟩ := fr_wld (W2 := (([(ho, .inl (cO, 1, .inr (.inl (fo))))] : va_W) ++ kW h0 cB cD cR x2 ds2)) (A := A) (fun q hq => hA q (Nat.le_trans hS0.1 hq)) hP hD List.perm_append_comm hk1 hP1 hD1 (kz List.perm_append_comm)
    clear hPc hDc hKc hFc hP1 hD1 hK1 hk1 hS0
    rcases cd_about.resolve_left hne with hcd | hcd | hcd
    · have hE : E = "java/util/NoSuchElementException" := by rw [hE, hcd]; rfl
      subst hE
      refine vx_catch (name := "java/util/NoSuchElementException") hown [] ⟨0, 10, 13, 47⟩ [⟨0, 10, 17, 49⟩, ⟨0, 10, 21, 13⟩] (htab.trans rfl) (fun z hz => by cases hz) (by decide) (by decide) (hw0 (.classLink "TextKeeperLaw" 47 "java/util/NoSuchElementException") wm_52) (va_Nw.use rfl (hN.1 (.castable "java/util/NoSuchElementException" "java/util/NoSuchElementException") (List.mem_of_getElem? (i := 4) rfl))) hce hcv hcl ?_
      refine W.eq (g2 := F0 m 13 ls [.ref q9]) rfl ?_
      generalize H1 = H at hP hS hce ⊢
      refine W.widen (k := 2) (n := 264) (by decide +kernel) (by decide +kernel) ?_
      refine lv_astore (lv' := [(4, .ref q9), (0, .ref h0), (1, .int a1), (2, .int a2), (3, .ref ho)]) hx hb d_L_about_13 hl (by decide) rfl (fun ls hl => ?_)
      refine lv_iconst (v := 1) hx hb d_L_about_15 (by decide) ?_
      exact W.iret (v := 1) hx hb hr (fun t ht hW => ⟨⟨1, (), rfl, hcd.symm, fo, x2, ds2, ⟨hk2, fun h => absurd h hne⟩, by rw [ht]; exact hP, va_K.moved hW.alike hK, hD⟩, hS.F ht⟩) hS.2.2 d_L_about_16
    · have hE : E = "java/lang/IllegalArgumentException" := by rw [hE, hcd]; rfl
      subst hE
      refine vx_catch (name := "java/lang/IllegalArgumentException") hown [⟨0, 10, 13, 47⟩] ⟨0, 10, 17, 49⟩ [⟨0, 10, 21, 13⟩] (htab.trans rfl) (fun z hz => Or.inr (by obtain rfl := List.mem_singleton.mp hz; exact ⟨by decide, "java/util/NoSuchElementException", (hw0 (.classLink "TextKeeperLaw" 47 "java/util/NoSuchElementException") wm_52), hnc.1⟩)) (by decide) (by decide) (hw0 (.classLink "TextKeeperLaw" 49 "java/lang/IllegalArgumentException") wm_53) (va_Nw.use rfl (hN.1 (.castable "java/lang/IllegalArgumentException" "java/lang/IllegalArgumentException") (List.mem_of_getElem? (i := 5) rfl))) hce hcv hcl ?_
      refine W.eq (g2 := F0 m 17 ls [.ref q9]) rfl ?_
      generalize H1 = H at hP hS hce ⊢
      refine W.widen (k := 2) (n := 264) (by decide +kernel) (by decide +kernel) ?_
      refine lv_astore (lv' := [(4, .ref q9), (0, .ref h0), (1, .int a1), (2, .int a2), (3, .ref ho)]) hx hb d_L_about_17 hl (by decide) rfl (fun ls hl => ?_)
      refine lv_iconst (v := 2) hx hb d_L_about_19 (by decide) ?_
      exact W.iret (v := 2) hx hb hr (fun t ht hW => ⟨⟨2, (), rfl, hcd.symm, fo, x2, ds2, ⟨hk2, fun h => absurd h hne⟩, by rw [ht]; exact hP, va_K.moved hW.alike hK, hD⟩, hS.F ht⟩) hS.2.2 d_L_about_20
    · have hE : E = "java/lang/IllegalStateException" := by rw [hE, hcd]; rfl
      subst hE
      refine vx_catch (name := "java/lang/IllegalStateException") hown [⟨0, 10, 13, 47⟩, ⟨0, 10, 17, 49⟩] ⟨0, 10, 21, 13⟩ [] (htab.trans rfl) (fun z hz => Or.inr (by rcases List.mem_cons.mp hz with rfl | hz; exact ⟨by decide, "java/util/NoSuchElementException", (hw0 (.classLink "TextKeeperLaw" 47 "java/util/NoSuchElementException") wm_52), hnc.2.1⟩; obtain rfl := List.mem_singleton.mp hz; exact ⟨by decide, "java/lang/IllegalArgumentException", (hw0 (.classLink "TextKeeperLaw" 49 "java/lang/IllegalArgumentException") wm_53), hnc.2.2⟩)) (by decide) (by decide) (hw0 (.classLink "TextKeeperLaw" 13 "java/lang/IllegalStateException") wm_6) (va_Nw.use rfl (hN.1 (.castable "java/lang/IllegalStateException" "java/lang/IllegalStateException") (List.mem_of_getElem? (i := 0) rfl))) hce hcv hcl ?_
      refine W.eq (g2 := F0 m 21 ls [.ref q9]) rfl ?_
      generalize H1 = H at hP hS hce ⊢
      refine W.widen (k := 2) (n := 264) (by decide +kernel) (by decide +kernel) ?_
      refine lv_astore (lv' := [(4, .ref q9), (0, .ref h0), (1, .int a1), (2, .int a2), (3, .ref ho)]) hx hb d_L_about_21 hl (by decide) rfl (fun ls hl => ?_)
      refine lv_iconst (v := 3) hx hb d_L_about_23 (by decide) ?_
      exact W.iret (v := 3) hx hb hr (fun t ht hW => ⟨⟨3, (), rfl, hcd.symm, fo, x2, ds2, ⟨hk2, fun h => absurd h hne⟩, by rw [ht]; exact hP, va_K.moved hW.alike hK, hD⟩, hS.F ht⟩) hS.2.2 d_L_about_24
  · obtain ⟨hc0, hr0⟩ : (sAbout σ a1 a2).2.1 = 0 ∧ r = (sAbout σ a1 a2).2.2 := hw
    obtain ⟨x2, ds2, hk2, hP1, hK1, hD1⟩ := hB
    rw [ht] at hP1
    obtain ⟨hP, hD⟩ := fr_wld (W2 := (([(ho, .inl (cO, 1, .inr (.inl (fo))))] : va_W) ++ kW h0 cB cD cR x2 ds2)) (A := A) (fun q hq => hA q (Nat.le_trans hS0.1 hq)) hP hD List.perm_append_comm hk1 hP1 hD1 (kz List.perm_append_comm)
    clear hPc hDc hKc hFc hP1 hD1 hK1 hk1 hS0
    generalize H1 = H at hP hS ⊢
    refine W.widen (k := 2) (n := 264) (by decide +kernel) (by decide +kernel) ?_
    refine lv_i2l (v := r.toInt64) hx hb d_L_about_8 rfl ?_
    refine va_last hx hb hK hP hD hS 0 0 rfl rfl (by unfold vp_in; decide +kernel) d_L_about_9 (fun H locs hP hD hS => ?_)
    replace hP : va_P (dC, dI) vwCl (([(ho, .inl (cO, 1, .inr (.inl (vp_updL (fo) (Int32.toNatClampNeg 0) (r.toInt64)))))] : va_W) ++ kW h0 cB cD cR x2 ds2) H := hP
    replace hD : va_D A (([(ho, .inl (cO, 1, .inr (.inl (vp_updL (fo) (Int32.toNatClampNeg 0) (r.toInt64)))))] : va_W) ++ kW h0 cB cD cR x2 ds2) := hD
    refine lv_goto (tgt := 25) hx hb d_L_about_10 (by decide) ?_
    refine lv_iconst (v := 0) hx hb d_L_about_25 (by decide) ?_
    exact W.iret (v := 0) hx hb hr (fun t ht hW => ⟨⟨0, (), rfl, hc0.symm, (vp_updL (fo) (Int32.toNatClampNeg 0) (r.toInt64)), x2, ds2, ⟨hk2, fun _ => x_up0.trans (by rw [hr0])⟩, by rw [ht]; exact hP, va_K.moved hW.alike hK, hD⟩, hS.F ht⟩) hS.2.2 d_L_about_26
set_option maxHeartbeats 4000000 in
set_option maxRecDepth 100000 in
theorem w_revision (l : Launch) (hl9 : l.stackTraces = false) (dC : Nat → ClassId) (dI : Nat → Nat → Nat) (sz : Nat) (h0 ho : Nat) (cB cD cR cO : ClassId) (fo : Nat → Int64) (x : KX) (ds : Nat → Option Dc) (σ : Sg) (a1 : Int32) (a2 : Int32) (a3 : Int32) (hs : sOk σ) (hk : kOk σ x ds) : Met l y_L_revision k_L_revision ({ frames := 9, cells := 2, slots := 264, locals := 179 } : Room) (va_Pc [.ref h0, .int a1, .int a2, .int a3, .ref ho] (fun U => pc_E (dC, dI) (([(ho, .inl (cO, 1, .inr (.inl (fo))))] : va_W) ++ kW h0 cB cD cR x ds) [(cO, .long), (cB, .byte), (cD, .object R_D), (cR, .object R_V)] sz U ∧ tw_ok U ∧ nc_ok U)) (va_Qi (fun (r : Int32) (_ : Unit) => r = (sRev σ a1 a2 a3).2.1) (fun (_ : Unit) t => ∃ (fo2 : Nat → Int64) (x2 : KX) (ds2 : Nat → Option Dc), (kOk (sRev σ a1 a2 a3).1 x2 ds2 ∧ ((sRev σ a1 a2 a3).2.1 = 0 → fo2 0 = (sRev σ a1 a2 a3).2.2.toInt64)) ∧ at_E (dC, dI) (va_A (([(ho, .inl (cO, 1, .inr (.inl (fo))))] : va_W) ++ kW h0 cB cD cR x ds) sz) (([(ho, .inl (cO, 1, .inr (.inl (fo2))))] : va_W) ++ kW h0 cB cD cR x2 ds2) [(cO, .long), (cB, .byte), (cD, .object R_D), (cR, .object R_V)] t) (va_A (([(ho, .inl (cO, 1, .inr (.inl (fo))))] : va_W) ++ kW h0 cB cD cR x ds) sz)) 2 264 (va_A (([(ho, .inl (cO, 1, .inr (.inl (fo))))] : va_W) ++ kW h0 cB cD cR x ds) sz) := by
  refine va_MetW (hh := [(0, 12, 15, 47), (0, 12, 19, 49), (0, 12, 23, 13)]) (cc := method_13_code) (maxL := 6) (ret := (some .int)) (by decide) rfl ?_
  intro p e s m args below meth c s₁ B hml hv
  obtain ⟨rfl, ⟨hsz, hP, hK, hD0, hN⟩, hTw, hnc⟩ := hv
  have hx := B.exec
  have hb := B.bytes
  have hr := B.returns
  have hts := atoms_spec (ws := k_L_revision) B.pre
  have hw0 : ∀ w ∈ w0, w.before _ s = true := fun w h => hts w (List.mem_cons_of_mem _ h)
  have hown : s.vm.findClass R_L = some m.cls := findClass_of_methodNamed B.named
  have hlocks := B.notSynchronized
  have htab := vx_table (x := y_L_revision) B (hts (.codeWith y_L_revision method_13_code 6 (some .int) [(0, 12, 15, 47), (0, 12, 19, 49), (0, 12, 23, 13)]) List.mem_cons_self)
  subst hsz
  have hD := hD0.self (sz := s.heap.size)
  generalize hAe : va_A (([(ho, .inl (cO, 1, .inr (.inl (fo))))] : va_W) ++ kW h0 cB cD cR x ds) s.heap.size = A at hD ⊢
  have hA : ∀ q : Nat, s.heap.size ≤ q → A q := fun q h => by rw [← hAe]; exact Or.inr h
  clear hAe hD0
  have hS : va_S A s.heap s.heap [] := va_S.rf
  have hl := lv_entry ([.ref h0, .int a1, .int a2, .int a3, .ref ho]) (n := 6) (Nat.le_of_ble_eq_true rfl)
  rw [lg_entry_eq]
  generalize (lg_sl ([.ref h0, .int a1, .int a2, .int a3, .ref ho]) ++ List.replicate (6 - (lg_sl ([.ref h0, .int a1, .int a2, .int a3, .ref ho])).length) Slot.unset).toArray = ls at hl ⊢
  have hl : lv_has ls 6 [(0, .ref h0), (1, .int a1), (2, .int a2), (3, .int a3), (4, .ref ho)] := hl
  refine lv_aload hx hb d_L_revision_0 (lv_at hl 4 rfl) ?_
  refine lv_iconst (v := 0) hx hb d_L_revision_2 (by decide) ?_
  refine lv_aload_n hx hb d_L_revision_3 rfl (lv_at hl 0 rfl) ?_
  refine lv_iload_n hx hb d_L_revision_4 rfl (lv_at hl 1 rfl) ?_
  refine lv_iload_n hx hb d_L_revision_5 rfl (lv_at hl 2 rfl) ?_
  refine lv_iload_n hx hb d_L_revision_6 rfl (lv_at hl 3 rfl) ?_
  have hPc : va_P (dC, dI) vwCl (kW h0 cB cD cR x ds) s.heap := (hP.perm List.perm_append_comm).left
  have hDc : va_D A (kW h0 cB cD cR x ds) := (hD.perm List.perm_append_comm).left
  have hKc : va_K (dC, dI) vwCl (kT cB cD cR) s := hK.sub [1, 2, 3] rfl
  have hFc : ∀ q : Nat, va_A (kW h0 cB cD cR x ds) s.heap.size q → A q := fr_free hD hS hA List.perm_append_comm
  have hS0 := hS
  refine vx_calli (vx_runV (As := [.int a1, .int a2, .int a3]) (rest := [.int 0, .ref ho]) ⟨hx, hb, hml, hown, hw0⟩ (kMet.out (k_revision l hl9 dC dI s.heap.size h0 cB cD cR x ds σ a1 a2 a3 hs hk)) (cwV 3 hw0 (gd_Vm wm_557 wm_558 wm_559 wm_308 wm_560) rfl rfl rfl (by decide +kernel) ⟨by decide +kernel, by decide +kernel⟩) (prV_T hPc hKc hDc hN hTw (fun _ _ => rfl) (va_recv hKc hPc (ci := 0) (q0 := 0) rfl rfl)) rfl rfl hl.1 rfl (lv_room (Nat.le_of_ble_eq_true rfl)) d_L_revision_7 ⟨by decide +kernel, by decide +kernel⟩) hS (fun q _ h => hFc q h) hFc (fun q _ h => hFc q h) (fun E ce q9 u t H1 locs ht hvm hw hB hz1 hk1 hS hce hcv hcl => ?_) (fun r u t H1 locs ht hvm hw hB hz1 hk1 hS => ?_)
  · obtain ⟨⟨hne, hE⟩, x2, ds2, hk2, hP1, hK1, hD1⟩ := hB
    rw [ht] at hP1
    obtain ⟨hP, hD⟩ := fr_wld (W2 := (([(ho, .inl (cO, 1, .inr (.inl (fo))))] : va_W) ++ kW h0 cB cD cR x2 ds2)) (A := A) (fun q hq => hA q (Nat.le_trans hS0.1 hq)) hP hD List.perm_append_comm hk1 hP1 hD1 (kz List.perm_append_comm)
    clear hPc hDc hKc hFc hP1 hD1 hK1 hk1 hS0
    rcases cd_revision.resolve_left hne with hcd | hcd | hcd
    · have hE : E = "java/util/NoSuchElementException" := by rw [hE, hcd]; rfl
      subst hE
      refine vx_catch (name := "java/util/NoSuchElementException") hown [] ⟨0, 12, 15, 47⟩ [⟨0, 12, 19, 49⟩, ⟨0, 12, 23, 13⟩] (htab.trans rfl) (fun z hz => by cases hz) (by decide) (by decide) (hw0 (.classLink "TextKeeperLaw" 47 "java/util/NoSuchElementException") wm_52) (va_Nw.use rfl (hN.1 (.castable "java/util/NoSuchElementException" "java/util/NoSuchElementException") (List.mem_of_getElem? (i := 4) rfl))) hce hcv hcl ?_
      refine W.eq (g2 := F0 m 15 ls [.ref q9]) rfl ?_
      generalize H1 = H at hP hS hce ⊢
      refine W.widen (k := 2) (n := 264) (by decide +kernel) (by decide +kernel) ?_
      refine lv_astore (lv' := [(5, .ref q9), (0, .ref h0), (1, .int a1), (2, .int a2), (3, .int a3), (4, .ref ho)]) hx hb d_L_revision_15 hl (by decide) rfl (fun ls hl => ?_)
      refine lv_iconst (v := 1) hx hb d_L_revision_17 (by decide) ?_
      exact W.iret (v := 1) hx hb hr (fun t ht hW => ⟨⟨1, (), rfl, hcd.symm, fo, x2, ds2, ⟨hk2, fun h => absurd h hne⟩, by rw [ht]; exact hP, va_K.moved hW.alike hK, hD⟩, hS.F ht⟩) hS.2.2 d_L_revision_18
    · have hE : E = "java/lang/IllegalArgumentException" := by rw [hE, hcd]; rfl
      subst hE
      refine vx_catch (name := "java/lang/IllegalArgumentException") hown [⟨0, 12, 15, 47⟩] ⟨0, 12, 19, 49⟩ [⟨0, 12, 23, 13⟩] (htab.trans rfl) (fun z hz => Or.inr (by obtain rfl := List.mem_singleton.mp hz; exact ⟨by decide, "java/util/NoSuchElementException", (hw0 (.classLink "TextKeeperLaw" 47 "java/util/NoSuchElementException") wm_52), hnc.1⟩)) (by decide) (by decide) (hw0 (.classLink "TextKeeperLaw" 49 "java/lang/IllegalArgumentException") wm_53) (va_Nw.use rfl (hN.1 (.castable "java/lang/IllegalArgumentException" "java/lang/IllegalArgumentException") (List.mem_of_getElem? (i := 5) rfl))) hce hcv hcl ?_
      refine W.eq (g2 := F0 m 19 ls [.ref q9]) rfl ?_
      generalize H1 = H at hP hS hce ⊢
      refine W.widen (k := 2) (n := 264) (by decide +kernel) (by decide +kernel) ?_
      refine lv_astore (lv' := [(5, .ref q9), (0, .ref h0), (1, .int a1), (2, .int a2), (3, .int a3), (4, .ref ho)]) hx hb d_L_revision_19 hl (by decide) rfl (fun ls hl => ?_)
      refine lv_iconst (v := 2) hx hb d_L_revision_21 (by decide) ?_
      exact W.iret (v := 2) hx hb hr (fun t ht hW => ⟨⟨2, (), rfl, hcd.symm, fo, x2, ds2, ⟨hk2, fun h => absurd h hne⟩, by rw [ht]; exact hP, va_K.moved hW.alike hK, hD⟩, hS.F ht⟩) hS.2.2 d_L_revision_22
    · have hE : E = "java/lang/IllegalStateException" := by rw [hE, hcd]; rfl
      subst hE
      refine vx_catch (name := "java/lang/IllegalStateException") hown [⟨0, 12, 15, 47⟩, ⟨0, 12, 19, 49⟩] ⟨0, 12, 23, 13⟩ [] (htab.trans rfl) (fun z hz => Or.inr (by rcases List.mem_cons.mp hz with rfl | hz; exact ⟨by decide, "java/util/NoSuchElementException", (hw0 (.classLink "TextKeeperLaw" 47 "java/util/NoSuchElementException") wm_52), hnc.2.1⟩; obtain rfl := List.mem_singleton.mp hz; exact ⟨by decide, "java/lang/IllegalArgumentException", (hw0 (.classLink "TextKeeperLaw" 49 "java/lang/IllegalArgumentException") wm_53), hnc.2.2⟩)) (by decide) (by decide) (hw0 (.classLink "TextKeeperLaw" 13 "java/lang/IllegalStateException") wm_6) (va_Nw.use rfl (hN.1 (.castable "java/lang/IllegalStateException" "java/lang/IllegalStateException") (List.mem_of_getElem? (i := 0) rfl))) hce hcv hcl ?_
      refine W.eq (g2 := F0 m 23 ls [.ref q9]) rfl ?_
      generalize H1 = H at hP hS hce ⊢
      refine W.widen (k := 2) (n := 264) (by decide +kernel) (by decide +kernel) ?_
      refine lv_astore (lv' := [(5, .ref q9), (0, .ref h0), (1, .int a1), (2, .int a2), (3, .int a3), (4, .ref ho)]) hx hb d_L_revision_23 hl (by decide) rfl (fun ls hl => ?_)
      refine lv_iconst (v := 3) hx hb d_L_revision_25 (by decide) ?_
      exact W.iret (v := 3) hx hb hr (fun t ht hW => ⟨⟨3, (), rfl, hcd.symm, fo, x2, ds2, ⟨hk2, fun h => absurd h hne⟩, by rw [ht]; exact hP, va_K.moved hW.alike hK, hD⟩, hS.F ht⟩) hS.2.2 d_L_revision_26
  · obtain ⟨hc0, hr0⟩ : (sRev σ a1 a2 a3).2.1 = 0 ∧ r = (sRev σ a1 a2 a3).2.2 := hw
    obtain ⟨x2, ds2, hk2, hP1, hK1, hD1⟩ := hB
    rw [ht] at hP1
    obtain ⟨hP, hD⟩ := fr_wld (W2 := (([(ho, .inl (cO, 1, .inr (.inl (fo))))] : va_W) ++ kW h0 cB cD cR x2 ds2)) (A := A) (fun q hq => hA q (Nat.le_trans hS0.1 hq)) hP hD List.perm_append_comm hk1 hP1 hD1 (kz List.perm_append_comm)
    clear hPc hDc hKc hFc hP1 hD1 hK1 hk1 hS0
    generalize H1 = H at hP hS ⊢
    refine W.widen (k := 2) (n := 264) (by decide +kernel) (by decide +kernel) ?_
    refine lv_i2l (v := r.toInt64) hx hb d_L_revision_10 rfl ?_
    refine va_last hx hb hK hP hD hS 0 0 rfl rfl (by unfold vp_in; decide +kernel) d_L_revision_11 (fun H locs hP hD hS => ?_)
    replace hP : va_P (dC, dI) vwCl (([(ho, .inl (cO, 1, .inr (.inl (vp_updL (fo) (Int32.toNatClampNeg 0) (r.toInt64)))))] : va_W) ++ kW h0 cB cD cR x2 ds2) H := hP
    replace hD : va_D A (([(ho, .inl (cO, 1, .inr (.inl (vp_updL (fo) (Int32.toNatClampNeg 0) (r.toInt64)))))] : va_W) ++ kW h0 cB cD cR x2 ds2) := hD
    refine lv_goto (tgt := 27) hx hb d_L_revision_12 (by decide) ?_
    refine lv_iconst (v := 0) hx hb d_L_revision_27 (by decide) ?_
    exact W.iret (v := 0) hx hb hr (fun t ht hW => ⟨⟨0, (), rfl, hc0.symm, (vp_updL (fo) (Int32.toNatClampNeg 0) (r.toInt64)), x2, ds2, ⟨hk2, fun _ => x_up0.trans (by rw [hr0])⟩, by rw [ht]; exact hP, va_K.moved hW.alike hK, hD⟩, hS.F ht⟩) hS.2.2 d_L_revision_28
set_option maxHeartbeats 4000000 in
set_option maxRecDepth 100000 in
theorem w_pieceByte (l : Launch) (hl9 : l.stackTraces = false) (dC : Nat → ClassId) (dI : Nat → Nat → Nat) (sz : Nat) (h0 ho : Nat) (cB cD cR cO : ClassId) (fo : Nat → Int64) (x : KX) (ds : Nat → Option Dc) (σ : Sg) (a1 : Int32) (a2 : Int32) (a3 : Int32) (hs : sOk σ) (hk : kOk σ x ds) : Met l y_L_pieceByte k_L_pieceByte ({ frames := 9, cells := 2, slots := 264, locals := 179 } : Room) (va_Pc [.ref h0, .int a1, .int a2, .int a3, .ref ho] (fun U => pc_E (dC, dI) (([(ho, .inl (cO, 1, .inr (.inl (fo))))] : va_W) ++ kW h0 cB cD cR x ds) [(cO, .long), (cB, .byte), (cD, .object R_D), (cR, .object R_V)] sz U ∧ tw_ok U)) (va_Qi (fun (r : Int32) (_ : Unit) => r = (sByte σ a1 a2 a3).2.1) (fun (_ : Unit) t => ∃ (fo2 : Nat → Int64) (x2 : KX) (ds2 : Nat → Option Dc), (kOk (sByte σ a1 a2 a3).1 x2 ds2 ∧ ((sByte σ a1 a2 a3).2.1 = 0 → fo2 0 = (sByte σ a1 a2 a3).2.2.toInt64)) ∧ at_E (dC, dI) (va_A (([(ho, .inl (cO, 1, .inr (.inl (fo))))] : va_W) ++ kW h0 cB cD cR x ds) sz) (([(ho, .inl (cO, 1, .inr (.inl (fo2))))] : va_W) ++ kW h0 cB cD cR x2 ds2) [(cO, .long), (cB, .byte), (cD, .object R_D), (cR, .object R_V)] t) (va_A (([(ho, .inl (cO, 1, .inr (.inl (fo))))] : va_W) ++ kW h0 cB cD cR x ds) sz)) 2 264 (va_A (([(ho, .inl (cO, 1, .inr (.inl (fo))))] : va_W) ++ kW h0 cB cD cR x ds) sz) := by
  refine va_MetW (hh := [(0, 12, 15, 13)]) (cc := method_14_code) (maxL := 6) (ret := (some .int)) (by decide) rfl ?_
  intro p e s m args below meth c s₁ B hml hv
  obtain ⟨rfl, ⟨hsz, hP, hK, hD0, hN⟩, hTw⟩ := hv
  have hx := B.exec
  have hb := B.bytes
  have hr := B.returns
  have hts := atoms_spec (ws := k_L_pieceByte) B.pre
  have hw0 : ∀ w ∈ w0, w.before _ s = true := fun w h => hts w (List.mem_cons_of_mem _ h)
  have hown : s.vm.findClass R_L = some m.cls := findClass_of_methodNamed B.named
  have hlocks := B.notSynchronized
  have htab := vx_table (x := y_L_pieceByte) B (hts (.codeWith y_L_pieceByte method_14_code 6 (some .int) [(0, 12, 15, 13)]) List.mem_cons_self)
  subst hsz
  have hD := hD0.self (sz := s.heap.size)
  generalize hAe : va_A (([(ho, .inl (cO, 1, .inr (.inl (fo))))] : va_W) ++ kW h0 cB cD cR x ds) s.heap.size = A at hD ⊢
  have hA : ∀ q : Nat, s.heap.size ≤ q → A q := fun q h => by rw [← hAe]; exact Or.inr h
  clear hAe hD0
  have hS : va_S A s.heap s.heap [] := va_S.rf
  have hl := lv_entry ([.ref h0, .int a1, .int a2, .int a3, .ref ho]) (n := 6) (Nat.le_of_ble_eq_true rfl)
  rw [lg_entry_eq]
  generalize (lg_sl ([.ref h0, .int a1, .int a2, .int a3, .ref ho]) ++ List.replicate (6 - (lg_sl ([.ref h0, .int a1, .int a2, .int a3, .ref ho])).length) Slot.unset).toArray = ls at hl ⊢
  have hl : lv_has ls 6 [(0, .ref h0), (1, .int a1), (2, .int a2), (3, .int a3), (4, .ref ho)] := hl
  refine lv_aload hx hb d_L_pieceByte_0 (lv_at hl 4 rfl) ?_
  refine lv_iconst (v := 0) hx hb d_L_pieceByte_2 (by decide) ?_
  refine lv_aload_n hx hb d_L_pieceByte_3 rfl (lv_at hl 0 rfl) ?_
  refine lv_iload_n hx hb d_L_pieceByte_4 rfl (lv_at hl 1 rfl) ?_
  refine lv_iload_n hx hb d_L_pieceByte_5 rfl (lv_at hl 2 rfl) ?_
  refine lv_iload_n hx hb d_L_pieceByte_6 rfl (lv_at hl 3 rfl) ?_
  have hPc : va_P (dC, dI) vwCl (kW h0 cB cD cR x ds) s.heap := (hP.perm List.perm_append_comm).left
  have hDc : va_D A (kW h0 cB cD cR x ds) := (hD.perm List.perm_append_comm).left
  have hKc : va_K (dC, dI) vwCl (kT cB cD cR) s := hK.sub [1, 2, 3] rfl
  have hFc : ∀ q : Nat, va_A (kW h0 cB cD cR x ds) s.heap.size q → A q := fr_free hD hS hA List.perm_append_comm
  have hS0 := hS
  refine vx_calli (vx_runV (As := [.int a1, .int a2, .int a3]) (rest := [.int 0, .ref ho]) ⟨hx, hb, hml, hown, hw0⟩ (kMet.out (k_pieceByte l hl9 dC dI s.heap.size h0 cB cD cR x ds σ a1 a2 a3 hs hk)) (cwV 3 hw0 (gd_Vm wm_561 wm_562 wm_563 wm_308 wm_564) rfl rfl rfl (by decide +kernel) ⟨by decide +kernel, by decide +kernel⟩) (prV_T hPc hKc hDc hN hTw (fun _ _ => rfl) (va_recv hKc hPc (ci := 0) (q0 := 0) rfl rfl)) rfl rfl hl.1 rfl (lv_room (Nat.le_of_ble_eq_true rfl)) d_L_pieceByte_7 ⟨by decide +kernel, by decide +kernel⟩) hS (fun q _ h => hFc q h) hFc (fun q _ h => hFc q h) (fun E ce q9 u t H1 locs ht hvm hw hB hz1 hk1 hS hce hcv hcl => ?_) (fun r u t H1 locs ht hvm hw hB hz1 hk1 hS => ?_)
  · obtain ⟨⟨hne, hE⟩, x2, ds2, hk2, hP1, hK1, hD1⟩ := hB
    rw [ht] at hP1
    obtain ⟨hP, hD⟩ := fr_wld (W2 := (([(ho, .inl (cO, 1, .inr (.inl (fo))))] : va_W) ++ kW h0 cB cD cR x2 ds2)) (A := A) (fun q hq => hA q (Nat.le_trans hS0.1 hq)) hP hD List.perm_append_comm hk1 hP1 hD1 (kz List.perm_append_comm)
    clear hPc hDc hKc hFc hP1 hD1 hK1 hk1 hS0
    have hcd : (sByte σ a1 a2 a3).2.1 = 1 := cd_pieceByte.resolve_left hne
    have hE : E = "java/lang/IllegalStateException" := hE
    subst hE
    refine vx_catch (name := "java/lang/IllegalStateException") hown [] ⟨0, 12, 15, 13⟩ [] (htab.trans rfl) (fun z hz => by cases hz) (by decide) (by decide) (hw0 (.classLink "TextKeeperLaw" 13 "java/lang/IllegalStateException") wm_6) (va_Nw.use rfl (hN.1 (.castable "java/lang/IllegalStateException" "java/lang/IllegalStateException") (List.mem_of_getElem? (i := 0) rfl))) hce hcv hcl ?_
    refine W.eq (g2 := F0 m 15 ls [.ref q9]) rfl ?_
    generalize H1 = H at hP hS hce ⊢
    refine W.widen (k := 2) (n := 264) (by decide +kernel) (by decide +kernel) ?_
    refine lv_astore (lv' := [(5, .ref q9), (0, .ref h0), (1, .int a1), (2, .int a2), (3, .int a3), (4, .ref ho)]) hx hb d_L_pieceByte_15 hl (by decide) rfl (fun ls hl => ?_)
    refine lv_iconst (v := 1) hx hb d_L_pieceByte_17 (by decide) ?_
    exact W.iret (v := 1) hx hb hr (fun t ht hW => ⟨⟨1, (), rfl, hcd.symm, fo, x2, ds2, ⟨hk2, fun h => absurd h hne⟩, by rw [ht]; exact hP, va_K.moved hW.alike hK, hD⟩, hS.F ht⟩) hS.2.2 d_L_pieceByte_18
  · obtain ⟨hc0, hr0⟩ : (sByte σ a1 a2 a3).2.1 = 0 ∧ r = (sByte σ a1 a2 a3).2.2 := hw
    obtain ⟨x2, ds2, hk2, hP1, hK1, hD1⟩ := hB
    rw [ht] at hP1
    obtain ⟨hP, hD⟩ := fr_wld (W2 := (([(ho, .inl (cO, 1, .inr (.inl (fo))))] : va_W) ++ kW h0 cB cD cR x2 ds2)) (A := A) (fun q hq => hA q (Nat.le_trans hS0.1 hq)) hP hD List.perm_append_comm hk1 hP1 hD1 (kz List.perm_append_comm)
    clear hPc hDc hKc hFc hP1 hD1 hK1 hk1 hS0
    generalize H1 = H at hP hS ⊢
    refine W.widen (k := 2) (n := 264) (by decide +kernel) (by decide +kernel) ?_
    refine lv_i2l (v := r.toInt64) hx hb d_L_pieceByte_10 rfl ?_
    refine va_last hx hb hK hP hD hS 0 0 rfl rfl (by unfold vp_in; decide +kernel) d_L_pieceByte_11 (fun H locs hP hD hS => ?_)
    replace hP : va_P (dC, dI) vwCl (([(ho, .inl (cO, 1, .inr (.inl (vp_updL (fo) (Int32.toNatClampNeg 0) (r.toInt64)))))] : va_W) ++ kW h0 cB cD cR x2 ds2) H := hP
    replace hD : va_D A (([(ho, .inl (cO, 1, .inr (.inl (vp_updL (fo) (Int32.toNatClampNeg 0) (r.toInt64)))))] : va_W) ++ kW h0 cB cD cR x2 ds2) := hD
    refine lv_goto (tgt := 19) hx hb d_L_pieceByte_12 (by decide) ?_
    refine lv_iconst (v := 0) hx hb d_L_pieceByte_19 (by decide) ?_
    exact W.iret (v := 0) hx hb hr (fun t ht hW => ⟨⟨0, (), rfl, hc0.symm, (vp_updL (fo) (Int32.toNatClampNeg 0) (r.toInt64)), x2, ds2, ⟨hk2, fun _ => x_up0.trans (by rw [hr0])⟩, by rw [ht]; exact hP, va_K.moved hW.alike hK, hD⟩, hS.F ht⟩) hS.2.2 d_L_pieceByte_20
set_option maxHeartbeats 4000000 in
set_option maxRecDepth 100000 in
theorem w_damage (l : Launch) (hl9 : l.stackTraces = false) (dC : Nat → ClassId) (dI : Nat → Nat → Nat) (sz : Nat) (h0 ho : Nat) (cB cD cR cO : ClassId) (fo : Nat → Int64) (x : KX) (ds : Nat → Option Dc) (σ : Sg) (a1 : Int32) (a2 : Int32) (a3 : Int32) (a4 : Int32) (hs : sOk σ) (hk : kOk σ x ds) : Met l y_L_damage k_L_damage ({ frames := 9, cells := 2, slots := 264, locals := 179 } : Room) (va_Pc [.ref h0, .int a1, .int a2, .int a3, .int a4, .ref ho] (fun U => pc_E (dC, dI) (([(ho, .inl (cO, 1, .inr (.inl (fo))))] : va_W) ++ kW h0 cB cD cR x ds) [(cO, .long), (cB, .byte), (cD, .object R_D), (cR, .object R_V)] sz U ∧ tw_ok U)) (va_Qi (fun (r : Int32) (_ : Unit) => r = (sDamage σ a1 a2 a3 a4).2.1) (fun (_ : Unit) t => ∃ (fo2 : Nat → Int64) (x2 : KX) (ds2 : Nat → Option Dc), (kOk (sDamage σ a1 a2 a3 a4).1 x2 ds2 ∧ ((sDamage σ a1 a2 a3 a4).2.1 = 0 → fo2 0 = (if (sDamage σ a1 a2 a3 a4).2.2 = 0 then 0 else 1))) ∧ at_E (dC, dI) (va_A (([(ho, .inl (cO, 1, .inr (.inl (fo))))] : va_W) ++ kW h0 cB cD cR x ds) sz) (([(ho, .inl (cO, 1, .inr (.inl (fo2))))] : va_W) ++ kW h0 cB cD cR x2 ds2) [(cO, .long), (cB, .byte), (cD, .object R_D), (cR, .object R_V)] t) (va_A (([(ho, .inl (cO, 1, .inr (.inl (fo))))] : va_W) ++ kW h0 cB cD cR x ds) sz)) 2 264 (va_A (([(ho, .inl (cO, 1, .inr (.inl (fo))))] : va_W) ++ kW h0 cB cD cR x ds) sz) := by
  refine va_MetW (hh := [(0, 21, 24, 13)]) (cc := method_15_code) (maxL := 7) (ret := (some .int)) (by decide) rfl ?_
  intro p e s m args below meth c s₁ B hml hv
  obtain ⟨rfl, ⟨hsz, hP, hK, hD0, hN⟩, hTw⟩ := hv
  have hx := B.exec
  have hb := B.bytes
  have hr := B.returns
  have hts := atoms_spec (ws := k_L_damage) B.pre
  have hw0 : ∀ w ∈ w0, w.before _ s = true := fun w h => hts w (List.mem_cons_of_mem _ h)
  have hown : s.vm.findClass R_L = some m.cls := findClass_of_methodNamed B.named
  have hlocks := B.notSynchronized
  have htab := vx_table (x := y_L_damage) B (hts (.codeWith y_L_damage method_15_code 7 (some .int) [(0, 21, 24, 13)]) List.mem_cons_self)
  subst hsz
  have hD := hD0.self (sz := s.heap.size)
  generalize hAe : va_A (([(ho, .inl (cO, 1, .inr (.inl (fo))))] : va_W) ++ kW h0 cB cD cR x ds) s.heap.size = A at hD ⊢
  have hA : ∀ q : Nat, s.heap.size ≤ q → A q := fun q h => by rw [← hAe]; exact Or.inr h
  clear hAe hD0
  have hS : va_S A s.heap s.heap [] := va_S.rf
  have hl := lv_entry ([.ref h0, .int a1, .int a2, .int a3, .int a4, .ref ho]) (n := 7) (Nat.le_of_ble_eq_true rfl)
  rw [lg_entry_eq]
  generalize (lg_sl ([.ref h0, .int a1, .int a2, .int a3, .int a4, .ref ho]) ++ List.replicate (7 - (lg_sl ([.ref h0, .int a1, .int a2, .int a3, .int a4, .ref ho])).length) Slot.unset).toArray = ls at hl ⊢
  have hl : lv_has ls 7 [(0, .ref h0), (1, .int a1), (2, .int a2), (3, .int a3), (4, .int a4), (5, .ref ho)] := hl
  refine lv_aload hx hb d_L_damage_0 (lv_at hl 5 rfl) ?_
  refine lv_iconst (v := 0) hx hb d_L_damage_2 (by decide) ?_
  refine lv_aload_n hx hb d_L_damage_3 rfl (lv_at hl 0 rfl) ?_
  refine lv_iload_n hx hb d_L_damage_4 rfl (lv_at hl 1 rfl) ?_
  refine lv_iload_n hx hb d_L_damage_5 rfl (lv_at hl 2 rfl) ?_
  refine lv_iload_n hx hb d_L_damage_6 rfl (lv_at hl 3 rfl) ?_
  refine lv_iload hx hb d_L_damage_7 (lv_at hl 4 rfl) ?_
  have hPc : va_P (dC, dI) vwCl (kW h0 cB cD cR x ds) s.heap := (hP.perm List.perm_append_comm).left
  have hDc : va_D A (kW h0 cB cD cR x ds) := (hD.perm List.perm_append_comm).left
  have hKc : va_K (dC, dI) vwCl (kT cB cD cR) s := hK.sub [1, 2, 3] rfl
  have hFc : ∀ q : Nat, va_A (kW h0 cB cD cR x ds) s.heap.size q → A q := fr_free hD hS hA List.perm_append_comm
  have hS0 := hS
  refine vx_calli (vx_runV (As := [.int a1, .int a2, .int a3, .int a4]) (rest := [.int 0, .ref ho]) ⟨hx, hb, hml, hown, hw0⟩ (kMet.out (k_damage l hl9 dC dI s.heap.size h0 cB cD cR x ds σ a1 a2 a3 a4 hs hk)) (cwV 4 hw0 (gd_Vm wm_565 wm_566 wm_567 wm_308 wm_568) rfl rfl rfl (by decide +kernel) ⟨by decide +kernel, by decide +kernel⟩) (prV_T hPc hKc hDc hN hTw (fun _ _ => rfl) (va_recv hKc hPc (ci := 0) (q0 := 0) rfl rfl)) rfl rfl hl.1 rfl (lv_room (Nat.le_of_ble_eq_true rfl)) d_L_damage_9 ⟨by decide +kernel, by decide +kernel⟩) hS (fun q _ h => hFc q h) hFc (fun q _ h => hFc q h) (fun E ce q9 u t H1 locs ht hvm hw hB hz1 hk1 hS hce hcv hcl => ?_) (fun r u t H1 locs ht hvm hw hB hz1 hk1 hS => ?_)
  · obtain ⟨⟨hne, hE⟩, x2, ds2, hk2, hP1, hK1, hD1⟩ := hB
    rw [ht] at hP1
    obtain ⟨hP, hD⟩ := fr_wld (W2 := (([(ho, .inl (cO, 1, .inr (.inl (fo))))] : va_W) ++ kW h0 cB cD cR x2 ds2)) (A := A) (fun q hq => hA q (Nat.le_trans hS0.1 hq)) hP hD List.perm_append_comm hk1 hP1 hD1 (kz List.perm_append_comm)
    clear hPc hDc hKc hFc hP1 hD1 hK1 hk1 hS0
    have hcd : (sDamage σ a1 a2 a3 a4).2.1 = 1 := cd_damage.resolve_left hne
    have hE : E = "java/lang/IllegalStateException" := hE
    subst hE
    refine vx_catch (name := "java/lang/IllegalStateException") hown [] ⟨0, 21, 24, 13⟩ [] (htab.trans rfl) (fun z hz => by cases hz) (by decide) (by decide) (hw0 (.classLink "TextKeeperLaw" 13 "java/lang/IllegalStateException") wm_6) (va_Nw.use rfl (hN.1 (.castable "java/lang/IllegalStateException" "java/lang/IllegalStateException") (List.mem_of_getElem? (i := 0) rfl))) hce hcv hcl ?_
    refine W.eq (g2 := F0 m 24 ls [.ref q9]) rfl ?_
    generalize H1 = H at hP hS hce ⊢
    refine W.widen (k := 2) (n := 264) (by decide +kernel) (by decide +kernel) ?_
    refine lv_astore (lv' := [(6, .ref q9), (0, .ref h0), (1, .int a1), (2, .int a2), (3, .int a3), (4, .int a4), (5, .ref ho)]) hx hb d_L_damage_24 hl (by decide) rfl (fun ls hl => ?_)
    refine lv_iconst (v := 1) hx hb d_L_damage_26 (by decide) ?_
    exact W.iret (v := 1) hx hb hr (fun t ht hW => ⟨⟨1, (), rfl, hcd.symm, fo, x2, ds2, ⟨hk2, fun h => absurd h hne⟩, by rw [ht]; exact hP, va_K.moved hW.alike hK, hD⟩, hS.F ht⟩) hS.2.2 d_L_damage_27
  · obtain ⟨hc0, hr0⟩ : (sDamage σ a1 a2 a3 a4).2.1 = 0 ∧ r = (sDamage σ a1 a2 a3 a4).2.2 := hw
    obtain ⟨x2, ds2, hk2, hP1, hK1, hD1⟩ := hB
    rw [ht] at hP1
    obtain ⟨hP, hD⟩ := fr_wld (W2 := (([(ho, .inl (cO, 1, .inr (.inl (fo))))] : va_W) ++ kW h0 cB cD cR x2 ds2)) (A := A) (fun q hq => hA q (Nat.le_trans hS0.1 hq)) hP hD List.perm_append_comm hk1 hP1 hD1 (kz List.perm_append_comm)
    clear hPc hDc hKc hFc hP1 hD1 hK1 hk1 hS0
    generalize H1 = H at hP hS ⊢
    refine W.widen (k := 2) (n := 264) (by decide +kernel) (by decide +kernel) ?_
    refine lv_if_eq (tgt := 19) hx hb d_L_damage_12 (by decide) (fun c_1 => ?_) (fun c_1 => ?_)
    · refine lv_lconst (v := 0) hx hb d_L_damage_19 (by decide) ?_
      refine va_last hx hb hK hP hD hS 0 0 rfl rfl (by unfold vp_in; decide +kernel) d_L_damage_20 (fun H locs hP hD hS => ?_)
      replace hP : va_P (dC, dI) vwCl (([(ho, .inl (cO, 1, .inr (.inl (vp_updL (fo) (Int32.toNatClampNeg 0) (0)))))] : va_W) ++ kW h0 cB cD cR x2 ds2) H := hP
      replace hD : va_D A (([(ho, .inl (cO, 1, .inr (.inl (vp_updL (fo) (Int32.toNatClampNeg 0) (0)))))] : va_W) ++ kW h0 cB cD cR x2 ds2) := hD
      refine lv_goto (tgt := 28) hx hb d_L_damage_21 (by decide) ?_
      refine lv_iconst (v := 0) hx hb d_L_damage_28 (by decide) ?_
      exact W.iret (v := 0) hx hb hr (fun t ht hW => ⟨⟨0, (), rfl, hc0.symm, (vp_updL (fo) (Int32.toNatClampNeg 0) (0)), x2, ds2, ⟨hk2, fun _ => x_up0.trans (by rw [← hr0]; exact (if_pos c_1).symm)⟩, by rw [ht]; exact hP, va_K.moved hW.alike hK, hD⟩, hS.F ht⟩) hS.2.2 d_L_damage_29
    · refine lv_lconst (v := 1) hx hb d_L_damage_15 (by decide) ?_
      refine lv_goto (tgt := 20) hx hb d_L_damage_16 (by decide) ?_
      refine va_last hx hb hK hP hD hS 0 0 rfl rfl (by unfold vp_in; decide +kernel) d_L_damage_20 (fun H locs hP hD hS => ?_)
      replace hP : va_P (dC, dI) vwCl (([(ho, .inl (cO, 1, .inr (.inl (vp_updL (fo) (Int32.toNatClampNeg 0) (1)))))] : va_W) ++ kW h0 cB cD cR x2 ds2) H := hP
      replace hD : va_D A (([(ho, .inl (cO, 1, .inr (.inl (vp_updL (fo) (Int32.toNatClampNeg 0) (1)))))] : va_W) ++ kW h0 cB cD cR x2 ds2) := hD
      refine lv_goto (tgt := 28) hx hb d_L_damage_21 (by decide) ?_
      refine lv_iconst (v := 0) hx hb d_L_damage_28 (by decide) ?_
      exact W.iret (v := 0) hx hb hr (fun t ht hW => ⟨⟨0, (), rfl, hc0.symm, (vp_updL (fo) (Int32.toNatClampNeg 0) (1)), x2, ds2, ⟨hk2, fun _ => x_up0.trans (by rw [← hr0]; exact (if_neg c_1).symm)⟩, by rw [ht]; exact hP, va_K.moved hW.alike hK, hD⟩, hS.F ht⟩) hS.2.2 d_L_damage_29
set_option maxHeartbeats 4000000 in
set_option maxRecDepth 100000 in
theorem w_verify (l : Launch) (hl9 : l.stackTraces = false) (dC : Nat → ClassId) (dI : Nat → Nat → Nat) (sz : Nat) (h0 ho : Nat) (cB cD cR cO : ClassId) (fo : Nat → Int64) (x : KX) (ds : Nat → Option Dc) (σ : Sg) (a1 : Int32) (hs : sOk σ) (hk : kOk σ x ds) : Met l y_L_verify k_L_verify ({ frames := 9, cells := 2, slots := 264, locals := 179 } : Room) (va_Pc [.ref h0, .int a1, .ref ho] (fun U => pc_E (dC, dI) (([(ho, .inl (cO, 1, .inr (.inl (fo))))] : va_W) ++ kW h0 cB cD cR x ds) [(cO, .long), (cB, .byte), (cD, .object R_D), (cR, .object R_V)] sz U ∧ tw_ok U)) (va_Qi (fun (r : Int32) (_ : Unit) => r = (sVerify σ a1).2.1) (fun (_ : Unit) t => ∃ (fo2 : Nat → Int64) (x2 : KX) (ds2 : Nat → Option Dc), (kOk (sVerify σ a1).1 x2 ds2 ∧ ((sVerify σ a1).2.1 = 0 → fo2 0 = (sVerify σ a1).2.2.toInt64)) ∧ at_E (dC, dI) (va_A (([(ho, .inl (cO, 1, .inr (.inl (fo))))] : va_W) ++ kW h0 cB cD cR x ds) sz) (([(ho, .inl (cO, 1, .inr (.inl (fo2))))] : va_W) ++ kW h0 cB cD cR x2 ds2) [(cO, .long), (cB, .byte), (cD, .object R_D), (cR, .object R_V)] t) (va_A (([(ho, .inl (cO, 1, .inr (.inl (fo))))] : va_W) ++ kW h0 cB cD cR x ds) sz)) 2 264 (va_A (([(ho, .inl (cO, 1, .inr (.inl (fo))))] : va_W) ++ kW h0 cB cD cR x ds) sz) := by
  refine va_MetW (hh := [(0, 9, 12, 13)]) (cc := method_16_code) (maxL := 4) (ret := (some .int)) (by decide) rfl ?_
  intro p e s m args below meth c s₁ B hml hv
  obtain ⟨rfl, ⟨hsz, hP, hK, hD0, hN⟩, hTw⟩ := hv
  have hx := B.exec
  have hb := B.bytes
  have hr := B.returns
  have hts := atoms_spec (ws := k_L_verify) B.pre
  have hw0 : ∀ w ∈ w0, w.before _ s = true := fun w h => hts w (List.mem_cons_of_mem _ h)
  have hown : s.vm.findClass R_L = some m.cls := findClass_of_methodNamed B.named
  have hlocks := B.notSynchronized
  have htab := vx_table (x := y_L_verify) B (hts (.codeWith y_L_verify method_16_code 4 (some .int) [(0, 9, 12, 13)]) List.mem_cons_self)
  subst hsz
  have hD := hD0.self (sz := s.heap.size)
  generalize hAe : va_A (([(ho, .inl (cO, 1, .inr (.inl (fo))))] : va_W) ++ kW h0 cB cD cR x ds) s.heap.size = A at hD ⊢
  have hA : ∀ q : Nat, s.heap.size ≤ q → A q := fun q h => by rw [← hAe]; exact Or.inr h
  clear hAe hD0
  have hS : va_S A s.heap s.heap [] := va_S.rf
  have hl := lv_entry ([.ref h0, .int a1, .ref ho]) (n := 4) (Nat.le_of_ble_eq_true rfl)
  rw [lg_entry_eq]
  generalize (lg_sl ([.ref h0, .int a1, .ref ho]) ++ List.replicate (4 - (lg_sl ([.ref h0, .int a1, .ref ho])).length) Slot.unset).toArray = ls at hl ⊢
  have hl : lv_has ls 4 [(0, .ref h0), (1, .int a1), (2, .ref ho)] := hl
  refine lv_aload_n hx hb d_L_verify_0 rfl (lv_at hl 2 rfl) ?_
  refine lv_iconst (v := 0) hx hb d_L_verify_1 (by decide) ?_
  refine lv_aload_n hx hb d_L_verify_2 rfl (lv_at hl 0 rfl) ?_
  refine lv_iload_n hx hb d_L_verify_3 rfl (lv_at hl 1 rfl) ?_
  have hPc : va_P (dC, dI) vwCl (kW h0 cB cD cR x ds) s.heap := (hP.perm List.perm_append_comm).left
  have hDc : va_D A (kW h0 cB cD cR x ds) := (hD.perm List.perm_append_comm).left
  have hKc : va_K (dC, dI) vwCl (kT cB cD cR) s := hK.sub [1, 2, 3] rfl
  have hFc : ∀ q : Nat, va_A (kW h0 cB cD cR x ds) s.heap.size q → A q := fr_free hD hS hA List.perm_append_comm
  have hS0 := hS
  refine vx_calli (vx_runV (As := [.int a1]) (rest := [.int 0, .ref ho]) ⟨hx, hb, hml, hown, hw0⟩ (kMet.out (k_verify l hl9 dC dI s.heap.size h0 cB cD cR x ds σ a1 hs hk)) (cwV 1 hw0 (gd_Vm wm_569 wm_570 wm_571 wm_308 wm_572) rfl rfl rfl (by decide +kernel) ⟨by decide +kernel, by decide +kernel⟩) (prV_T hPc hKc hDc hN hTw (fun _ _ => rfl) (va_recv hKc hPc (ci := 0) (q0 := 0) rfl rfl)) rfl rfl hl.1 rfl (lv_room (Nat.le_of_ble_eq_true rfl)) d_L_verify_4 ⟨by decide +kernel, by decide +kernel⟩) hS (fun q _ h => hFc q h) hFc (fun q _ h => hFc q h) (fun E ce q9 u t H1 locs ht hvm hw hB hz1 hk1 hS hce hcv hcl => ?_) (fun r u t H1 locs ht hvm hw hB hz1 hk1 hS => ?_)
  · obtain ⟨⟨hne, hE⟩, x2, ds2, hk2, hP1, hK1, hD1⟩ := hB
    rw [ht] at hP1
    obtain ⟨hP, hD⟩ := fr_wld (W2 := (([(ho, .inl (cO, 1, .inr (.inl (fo))))] : va_W) ++ kW h0 cB cD cR x2 ds2)) (A := A) (fun q hq => hA q (Nat.le_trans hS0.1 hq)) hP hD List.perm_append_comm hk1 hP1 hD1 (kz List.perm_append_comm)
    clear hPc hDc hKc hFc hP1 hD1 hK1 hk1 hS0
    have hcd : (sVerify σ a1).2.1 = 1 := cd_verify.resolve_left hne
    have hE : E = "java/lang/IllegalStateException" := hE
    subst hE
    refine vx_catch (name := "java/lang/IllegalStateException") hown [] ⟨0, 9, 12, 13⟩ [] (htab.trans rfl) (fun z hz => by cases hz) (by decide) (by decide) (hw0 (.classLink "TextKeeperLaw" 13 "java/lang/IllegalStateException") wm_6) (va_Nw.use rfl (hN.1 (.castable "java/lang/IllegalStateException" "java/lang/IllegalStateException") (List.mem_of_getElem? (i := 0) rfl))) hce hcv hcl ?_
    refine W.eq (g2 := F0 m 12 ls [.ref q9]) rfl ?_
    generalize H1 = H at hP hS hce ⊢
    refine W.widen (k := 2) (n := 264) (by decide +kernel) (by decide +kernel) ?_
    refine lv_astore_n (lv' := [(3, .ref q9), (0, .ref h0), (1, .int a1), (2, .ref ho)]) hx hb d_L_verify_12 rfl hl (by decide) rfl (fun ls hl => ?_)
    refine lv_iconst (v := 1) hx hb d_L_verify_13 (by decide) ?_
    exact W.iret (v := 1) hx hb hr (fun t ht hW => ⟨⟨1, (), rfl, hcd.symm, fo, x2, ds2, ⟨hk2, fun h => absurd h hne⟩, by rw [ht]; exact hP, va_K.moved hW.alike hK, hD⟩, hS.F ht⟩) hS.2.2 d_L_verify_14
  · obtain ⟨hc0, hr0⟩ : (sVerify σ a1).2.1 = 0 ∧ r = (sVerify σ a1).2.2 := hw
    obtain ⟨x2, ds2, hk2, hP1, hK1, hD1⟩ := hB
    rw [ht] at hP1
    obtain ⟨hP, hD⟩ := fr_wld (W2 := (([(ho, .inl (cO, 1, .inr (.inl (fo))))] : va_W) ++ kW h0 cB cD cR x2 ds2)) (A := A) (fun q hq => hA q (Nat.le_trans hS0.1 hq)) hP hD List.perm_append_comm hk1 hP1 hD1 (kz List.perm_append_comm)
    clear hPc hDc hKc hFc hP1 hD1 hK1 hk1 hS0
    generalize H1 = H at hP hS ⊢
    refine W.widen (k := 2) (n := 264) (by decide +kernel) (by decide +kernel) ?_
    refine lv_i2l (v := r.toInt64) hx hb d_L_verify_7 rfl ?_
    refine va_last hx hb hK hP hD hS 0 0 rfl rfl (by unfold vp_in; decide +kernel) d_L_verify_8 (fun H locs hP hD hS => ?_)
    replace hP : va_P (dC, dI) vwCl (([(ho, .inl (cO, 1, .inr (.inl (vp_updL (fo) (Int32.toNatClampNeg 0) (r.toInt64)))))] : va_W) ++ kW h0 cB cD cR x2 ds2) H := hP
    replace hD : va_D A (([(ho, .inl (cO, 1, .inr (.inl (vp_updL (fo) (Int32.toNatClampNeg 0) (r.toInt64)))))] : va_W) ++ kW h0 cB cD cR x2 ds2) := hD
    refine lv_goto (tgt := 15) hx hb d_L_verify_9 (by decide) ?_
    refine lv_iconst (v := 0) hx hb d_L_verify_15 (by decide) ?_
    exact W.iret (v := 0) hx hb hr (fun t ht hW => ⟨⟨0, (), rfl, hc0.symm, (vp_updL (fo) (Int32.toNatClampNeg 0) (r.toInt64)), x2, ds2, ⟨hk2, fun _ => x_up0.trans (by rw [hr0])⟩, by rw [ht]; exact hP, va_K.moved hW.alike hK, hD⟩, hS.F ht⟩) hS.2.2 d_L_verify_16
set_option maxHeartbeats 4000000 in
set_option maxRecDepth 100000 in
theorem w_common (l : Launch) (hl9 : l.stackTraces = false) (dC : Nat → ClassId) (dI : Nat → Nat → Nat) (sz : Nat) (h0 ho : Nat) (cB cD cR cO : ClassId) (fo : Nat → Int64) (x : KX) (ds : Nat → Option Dc) (σ : Sg) (a1 : Int32) (a2 : Int32) (a3 : Int32) (a4 : Int32) (hs : sOk σ) (hk : kOk σ x ds) : Met l y_L_common k_L_common ({ frames := 9, cells := 2, slots := 264, locals := 179 } : Room) (va_Pc [.ref h0, .int a1, .int a2, .int a3, .int a4, .ref ho] (fun U => pc_E (dC, dI) (([(ho, .inl (cO, 1, .inr (.inl (fo))))] : va_W) ++ kW h0 cB cD cR x ds) [(cO, .long), (cB, .byte), (cD, .object R_D), (cR, .object R_V)] sz U ∧ tw_ok U)) (va_Qi (fun (r : Int32) (_ : Unit) => r = (sCommon σ a1 a2 a3 a4).2.1) (fun (_ : Unit) t => ∃ (fo2 : Nat → Int64) (x2 : KX) (ds2 : Nat → Option Dc), (kOk (sCommon σ a1 a2 a3 a4).1 x2 ds2 ∧ ((sCommon σ a1 a2 a3 a4).2.1 = 0 → fo2 0 = (sCommon σ a1 a2 a3 a4).2.2.toInt64)) ∧ at_E (dC, dI) (va_A (([(ho, .inl (cO, 1, .inr (.inl (fo))))] : va_W) ++ kW h0 cB cD cR x ds) sz) (([(ho, .inl (cO, 1, .inr (.inl (fo2))))] : va_W) ++ kW h0 cB cD cR x2 ds2) [(cO, .long), (cB, .byte), (cD, .object R_D), (cR, .object R_V)] t) (va_A (([(ho, .inl (cO, 1, .inr (.inl (fo))))] : va_W) ++ kW h0 cB cD cR x ds) sz)) 2 264 (va_A (([(ho, .inl (cO, 1, .inr (.inl (fo))))] : va_W) ++ kW h0 cB cD cR x ds) sz) := by
  refine va_MetW (hh := [(0, 14, 17, 13)]) (cc := method_17_code) (maxL := 7) (ret := (some .int)) (by decide) rfl ?_
  intro p e s m args below meth c s₁ B hml hv
  obtain ⟨rfl, ⟨hsz, hP, hK, hD0, hN⟩, hTw⟩ := hv
  have hx := B.exec
  have hb := B.bytes
  have hr := B.returns
  have hts := atoms_spec (ws := k_L_common) B.pre
  have hw0 : ∀ w ∈ w0, w.before _ s = true := fun w h => hts w (List.mem_cons_of_mem _ h)
  have hown : s.vm.findClass R_L = some m.cls := findClass_of_methodNamed B.named
  have hlocks := B.notSynchronized
  have htab := vx_table (x := y_L_common) B (hts (.codeWith y_L_common method_17_code 7 (some .int) [(0, 14, 17, 13)]) List.mem_cons_self)
  subst hsz
  have hD := hD0.self (sz := s.heap.size)
  generalize hAe : va_A (([(ho, .inl (cO, 1, .inr (.inl (fo))))] : va_W) ++ kW h0 cB cD cR x ds) s.heap.size = A at hD ⊢
  have hA : ∀ q : Nat, s.heap.size ≤ q → A q := fun q h => by rw [← hAe]; exact Or.inr h
  clear hAe hD0
  have hS : va_S A s.heap s.heap [] := va_S.rf
  have hl := lv_entry ([.ref h0, .int a1, .int a2, .int a3, .int a4, .ref ho]) (n := 7) (Nat.le_of_ble_eq_true rfl)
  rw [lg_entry_eq]
  generalize (lg_sl ([.ref h0, .int a1, .int a2, .int a3, .int a4, .ref ho]) ++ List.replicate (7 - (lg_sl ([.ref h0, .int a1, .int a2, .int a3, .int a4, .ref ho])).length) Slot.unset).toArray = ls at hl ⊢
  have hl : lv_has ls 7 [(0, .ref h0), (1, .int a1), (2, .int a2), (3, .int a3), (4, .int a4), (5, .ref ho)] := hl
  refine lv_aload hx hb d_L_common_0 (lv_at hl 5 rfl) ?_
  refine lv_iconst (v := 0) hx hb d_L_common_2 (by decide) ?_
  refine lv_aload_n hx hb d_L_common_3 rfl (lv_at hl 0 rfl) ?_
  refine lv_iload_n hx hb d_L_common_4 rfl (lv_at hl 1 rfl) ?_
  refine lv_iload_n hx hb d_L_common_5 rfl (lv_at hl 2 rfl) ?_
  refine lv_iload_n hx hb d_L_common_6 rfl (lv_at hl 3 rfl) ?_
  refine lv_iload hx hb d_L_common_7 (lv_at hl 4 rfl) ?_
  have hPc : va_P (dC, dI) vwCl (kW h0 cB cD cR x ds) s.heap := (hP.perm List.perm_append_comm).left
  have hDc : va_D A (kW h0 cB cD cR x ds) := (hD.perm List.perm_append_comm).left
  have hKc : va_K (dC, dI) vwCl (kT cB cD cR) s := hK.sub [1, 2, 3] rfl
  have hFc : ∀ q : Nat, va_A (kW h0 cB cD cR x ds) s.heap.size q → A q := fr_free hD hS hA List.perm_append_comm
  have hS0 := hS
  refine vx_calli (vx_runV (As := [.int a1, .int a2, .int a3, .int a4]) (rest := [.int 0, .ref ho]) ⟨hx, hb, hml, hown, hw0⟩ (kMet.out (k_common l hl9 dC dI s.heap.size h0 cB cD cR x ds σ a1 a2 a3 a4 hs hk)) (cwV 4 hw0 (gd_Vm wm_573 wm_574 wm_575 wm_308 wm_576) rfl rfl rfl (by decide +kernel) ⟨by decide +kernel, by decide +kernel⟩) (prV_T hPc hKc hDc hN hTw (fun _ _ => rfl) (va_recv hKc hPc (ci := 0) (q0 := 0) rfl rfl)) rfl rfl hl.1 rfl (lv_room (Nat.le_of_ble_eq_true rfl)) d_L_common_9 ⟨by decide +kernel, by decide +kernel⟩) hS (fun q _ h => hFc q h) hFc (fun q _ h => hFc q h) (fun E ce q9 u t H1 locs ht hvm hw hB hz1 hk1 hS hce hcv hcl => ?_) (fun r u t H1 locs ht hvm hw hB hz1 hk1 hS => ?_)
  · obtain ⟨⟨hne, hE⟩, x2, ds2, hk2, hP1, hK1, hD1⟩ := hB
    rw [ht] at hP1
    obtain ⟨hP, hD⟩ := fr_wld (W2 := (([(ho, .inl (cO, 1, .inr (.inl (fo))))] : va_W) ++ kW h0 cB cD cR x2 ds2)) (A := A) (fun q hq => hA q (Nat.le_trans hS0.1 hq)) hP hD List.perm_append_comm hk1 hP1 hD1 (kz List.perm_append_comm)
    clear hPc hDc hKc hFc hP1 hD1 hK1 hk1 hS0
    have hcd : (sCommon σ a1 a2 a3 a4).2.1 = 1 := cd_common.resolve_left hne
    have hE : E = "java/lang/IllegalStateException" := hE
    subst hE
    refine vx_catch (name := "java/lang/IllegalStateException") hown [] ⟨0, 14, 17, 13⟩ [] (htab.trans rfl) (fun z hz => by cases hz) (by decide) (by decide) (hw0 (.classLink "TextKeeperLaw" 13 "java/lang/IllegalStateException") wm_6) (va_Nw.use rfl (hN.1 (.castable "java/lang/IllegalStateException" "java/lang/IllegalStateException") (List.mem_of_getElem? (i := 0) rfl))) hce hcv hcl ?_
    refine W.eq (g2 := F0 m 17 ls [.ref q9]) rfl ?_
    generalize H1 = H at hP hS hce ⊢
    refine W.widen (k := 2) (n := 264) (by decide +kernel) (by decide +kernel) ?_
    refine lv_astore (lv' := [(6, .ref q9), (0, .ref h0), (1, .int a1), (2, .int a2), (3, .int a3), (4, .int a4), (5, .ref ho)]) hx hb d_L_common_17 hl (by decide) rfl (fun ls hl => ?_)
    refine lv_iconst (v := 1) hx hb d_L_common_19 (by decide) ?_
    exact W.iret (v := 1) hx hb hr (fun t ht hW => ⟨⟨1, (), rfl, hcd.symm, fo, x2, ds2, ⟨hk2, fun h => absurd h hne⟩, by rw [ht]; exact hP, va_K.moved hW.alike hK, hD⟩, hS.F ht⟩) hS.2.2 d_L_common_20
  · obtain ⟨hc0, hr0⟩ : (sCommon σ a1 a2 a3 a4).2.1 = 0 ∧ r = (sCommon σ a1 a2 a3 a4).2.2 := hw
    obtain ⟨x2, ds2, hk2, hP1, hK1, hD1⟩ := hB
    rw [ht] at hP1
    obtain ⟨hP, hD⟩ := fr_wld (W2 := (([(ho, .inl (cO, 1, .inr (.inl (fo))))] : va_W) ++ kW h0 cB cD cR x2 ds2)) (A := A) (fun q hq => hA q (Nat.le_trans hS0.1 hq)) hP hD List.perm_append_comm hk1 hP1 hD1 (kz List.perm_append_comm)
    clear hPc hDc hKc hFc hP1 hD1 hK1 hk1 hS0
    generalize H1 = H at hP hS ⊢
    refine W.widen (k := 2) (n := 264) (by decide +kernel) (by decide +kernel) ?_
    refine lv_i2l (v := r.toInt64) hx hb d_L_common_12 rfl ?_
    refine va_last hx hb hK hP hD hS 0 0 rfl rfl (by unfold vp_in; decide +kernel) d_L_common_13 (fun H locs hP hD hS => ?_)
    replace hP : va_P (dC, dI) vwCl (([(ho, .inl (cO, 1, .inr (.inl (vp_updL (fo) (Int32.toNatClampNeg 0) (r.toInt64)))))] : va_W) ++ kW h0 cB cD cR x2 ds2) H := hP
    replace hD : va_D A (([(ho, .inl (cO, 1, .inr (.inl (vp_updL (fo) (Int32.toNatClampNeg 0) (r.toInt64)))))] : va_W) ++ kW h0 cB cD cR x2 ds2) := hD
    refine lv_goto (tgt := 21) hx hb d_L_common_14 (by decide) ?_
    refine lv_iconst (v := 0) hx hb d_L_common_21 (by decide) ?_
    exact W.iret (v := 0) hx hb hr (fun t ht hW => ⟨⟨0, (), rfl, hc0.symm, (vp_updL (fo) (Int32.toNatClampNeg 0) (r.toInt64)), x2, ds2, ⟨hk2, fun _ => x_up0.trans (by rw [hr0])⟩, by rw [ht]; exact hP, va_K.moved hW.alike hK, hD⟩, hS.F ht⟩) hS.2.2 d_L_common_22
set_option maxHeartbeats 4000000 in
set_option maxRecDepth 100000 in
theorem w_freeBlocks (l : Launch) (hl9 : l.stackTraces = false) (dC : Nat → ClassId) (dI : Nat → Nat → Nat) (sz : Nat) (h0 ho : Nat) (cB cD cR cO : ClassId) (fo : Nat → Int64) (x : KX) (ds : Nat → Option Dc) (σ : Sg) (hs : sOk σ) (hk : kOk σ x ds) : Met l y_L_freeBlocks k_L_freeBlocks ({ frames := 9, cells := 2, slots := 264, locals := 179 } : Room) (va_Pc [.ref h0, .ref ho] (fun U => pc_E (dC, dI) (([(ho, .inl (cO, 1, .inr (.inl (fo))))] : va_W) ++ kW h0 cB cD cR x ds) [(cO, .long), (cB, .byte), (cD, .object R_D), (cR, .object R_V)] sz U ∧ tw_ok U)) (va_Qi (fun (r : Int32) (_ : Unit) => r = (sFree σ).2.1) (fun (_ : Unit) t => ∃ (fo2 : Nat → Int64) (x2 : KX) (ds2 : Nat → Option Dc), (kOk (sFree σ).1 x2 ds2 ∧ ((sFree σ).2.1 = 0 → fo2 0 = (sFree σ).2.2.toInt64)) ∧ at_E (dC, dI) (va_A (([(ho, .inl (cO, 1, .inr (.inl (fo))))] : va_W) ++ kW h0 cB cD cR x ds) sz) (([(ho, .inl (cO, 1, .inr (.inl (fo2))))] : va_W) ++ kW h0 cB cD cR x2 ds2) [(cO, .long), (cB, .byte), (cD, .object R_D), (cR, .object R_V)] t) (va_A (([(ho, .inl (cO, 1, .inr (.inl (fo))))] : va_W) ++ kW h0 cB cD cR x ds) sz)) 2 264 (va_A (([(ho, .inl (cO, 1, .inr (.inl (fo))))] : va_W) ++ kW h0 cB cD cR x ds) sz) := by
  refine va_MetW (hh := [(0, 8, 11, 13)]) (cc := method_18_code) (maxL := 3) (ret := (some .int)) (by decide) rfl ?_
  intro p e s m args below meth c s₁ B hml hv
  obtain ⟨rfl, ⟨hsz, hP, hK, hD0, hN⟩, hTw⟩ := hv
  have hx := B.exec
  have hb := B.bytes
  have hr := B.returns
  have hts := atoms_spec (ws := k_L_freeBlocks) B.pre
  have hw0 : ∀ w ∈ w0, w.before _ s = true := fun w h => hts w (List.mem_cons_of_mem _ h)
  have hown : s.vm.findClass R_L = some m.cls := findClass_of_methodNamed B.named
  have hlocks := B.notSynchronized
  have htab := vx_table (x := y_L_freeBlocks) B (hts (.codeWith y_L_freeBlocks method_18_code 3 (some .int) [(0, 8, 11, 13)]) List.mem_cons_self)
  subst hsz
  have hD := hD0.self (sz := s.heap.size)
  generalize hAe : va_A (([(ho, .inl (cO, 1, .inr (.inl (fo))))] : va_W) ++ kW h0 cB cD cR x ds) s.heap.size = A at hD ⊢
  have hA : ∀ q : Nat, s.heap.size ≤ q → A q := fun q h => by rw [← hAe]; exact Or.inr h
  clear hAe hD0
  have hS : va_S A s.heap s.heap [] := va_S.rf
  have hl := lv_entry ([.ref h0, .ref ho]) (n := 3) (Nat.le_of_ble_eq_true rfl)
  rw [lg_entry_eq]
  generalize (lg_sl ([.ref h0, .ref ho]) ++ List.replicate (3 - (lg_sl ([.ref h0, .ref ho])).length) Slot.unset).toArray = ls at hl ⊢
  have hl : lv_has ls 3 [(0, .ref h0), (1, .ref ho)] := hl
  refine lv_aload_n hx hb d_L_freeBlocks_0 rfl (lv_at hl 1 rfl) ?_
  refine lv_iconst (v := 0) hx hb d_L_freeBlocks_1 (by decide) ?_
  refine lv_aload_n hx hb d_L_freeBlocks_2 rfl (lv_at hl 0 rfl) ?_
  have hPc : va_P (dC, dI) vwCl (kW h0 cB cD cR x ds) s.heap := (hP.perm List.perm_append_comm).left
  have hDc : va_D A (kW h0 cB cD cR x ds) := (hD.perm List.perm_append_comm).left
  have hKc : va_K (dC, dI) vwCl (kT cB cD cR) s := hK.sub [1, 2, 3] rfl
  have hFc : ∀ q : Nat, va_A (kW h0 cB cD cR x ds) s.heap.size q → A q := fr_free hD hS hA List.perm_append_comm
  have hS0 := hS
  refine vx_calli (vx_runV (As := []) (rest := [.int 0, .ref ho]) ⟨hx, hb, hml, hown, hw0⟩ (kMet.out (k_freeBlocks l hl9 dC dI s.heap.size h0 cB cD cR x ds σ hs hk)) (cwV 0 hw0 (gd_Vm wm_577 wm_578 wm_579 wm_308 wm_580) rfl rfl rfl (by decide +kernel) ⟨by decide +kernel, by decide +kernel⟩) (prV_T hPc hKc hDc hN hTw (fun _ _ => rfl) (va_recv hKc hPc (ci := 0) (q0 := 0) rfl rfl)) rfl rfl hl.1 rfl (lv_room (Nat.le_of_ble_eq_true rfl)) d_L_freeBlocks_3 ⟨by decide +kernel, by decide +kernel⟩) hS (fun q _ h => hFc q h) hFc (fun q _ h => hFc q h) (fun E ce q9 u t H1 locs ht hvm hw hB hz1 hk1 hS hce hcv hcl => ?_) (fun r u t H1 locs ht hvm hw hB hz1 hk1 hS => ?_)
  · obtain ⟨⟨hne, hE⟩, x2, ds2, hk2, hP1, hK1, hD1⟩ := hB
    rw [ht] at hP1
    obtain ⟨hP, hD⟩ := fr_wld (W2 := (([(ho, .inl (cO, 1, .inr (.inl (fo))))] : va_W) ++ kW h0 cB cD cR x2 ds2)) (A := A) (fun q hq => hA q (Nat.le_trans hS0.1 hq)) hP hD List.perm_append_comm hk1 hP1 hD1 (kz List.perm_append_comm)
    clear hPc hDc hKc hFc hP1 hD1 hK1 hk1 hS0
    have hcd : (sFree σ).2.1 = 1 := cd_freeBlocks.resolve_left hne
    have hE : E = "java/lang/IllegalStateException" := hE
    subst hE
    refine vx_catch (name := "java/lang/IllegalStateException") hown [] ⟨0, 8, 11, 13⟩ [] (htab.trans rfl) (fun z hz => by cases hz) (by decide) (by decide) (hw0 (.classLink "TextKeeperLaw" 13 "java/lang/IllegalStateException") wm_6) (va_Nw.use rfl (hN.1 (.castable "java/lang/IllegalStateException" "java/lang/IllegalStateException") (List.mem_of_getElem? (i := 0) rfl))) hce hcv hcl ?_
    refine W.eq (g2 := F0 m 11 ls [.ref q9]) rfl ?_
    generalize H1 = H at hP hS hce ⊢
    refine W.widen (k := 2) (n := 264) (by decide +kernel) (by decide +kernel) ?_
    refine lv_astore_n (lv' := [(2, .ref q9), (0, .ref h0), (1, .ref ho)]) hx hb d_L_freeBlocks_11 rfl hl (by decide) rfl (fun ls hl => ?_)
    refine lv_iconst (v := 1) hx hb d_L_freeBlocks_12 (by decide) ?_
    exact W.iret (v := 1) hx hb hr (fun t ht hW => ⟨⟨1, (), rfl, hcd.symm, fo, x2, ds2, ⟨hk2, fun h => absurd h hne⟩, by rw [ht]; exact hP, va_K.moved hW.alike hK, hD⟩, hS.F ht⟩) hS.2.2 d_L_freeBlocks_13
  · obtain ⟨hc0, hr0⟩ : (sFree σ).2.1 = 0 ∧ r = (sFree σ).2.2 := hw
    obtain ⟨x2, ds2, hk2, hP1, hK1, hD1⟩ := hB
    rw [ht] at hP1
    obtain ⟨hP, hD⟩ := fr_wld (W2 := (([(ho, .inl (cO, 1, .inr (.inl (fo))))] : va_W) ++ kW h0 cB cD cR x2 ds2)) (A := A) (fun q hq => hA q (Nat.le_trans hS0.1 hq)) hP hD List.perm_append_comm hk1 hP1 hD1 (kz List.perm_append_comm)
    clear hPc hDc hKc hFc hP1 hD1 hK1 hk1 hS0
    generalize H1 = H at hP hS ⊢
    refine W.widen (k := 2) (n := 264) (by decide +kernel) (by decide +kernel) ?_
    refine lv_i2l (v := r.toInt64) hx hb d_L_freeBlocks_6 rfl ?_
    refine va_last hx hb hK hP hD hS 0 0 rfl rfl (by unfold vp_in; decide +kernel) d_L_freeBlocks_7 (fun H locs hP hD hS => ?_)
    replace hP : va_P (dC, dI) vwCl (([(ho, .inl (cO, 1, .inr (.inl (vp_updL (fo) (Int32.toNatClampNeg 0) (r.toInt64)))))] : va_W) ++ kW h0 cB cD cR x2 ds2) H := hP
    replace hD : va_D A (([(ho, .inl (cO, 1, .inr (.inl (vp_updL (fo) (Int32.toNatClampNeg 0) (r.toInt64)))))] : va_W) ++ kW h0 cB cD cR x2 ds2) := hD
    refine lv_goto (tgt := 14) hx hb d_L_freeBlocks_8 (by decide) ?_
    refine lv_iconst (v := 0) hx hb d_L_freeBlocks_14 (by decide) ?_
    exact W.iret (v := 0) hx hb hr (fun t ht hW => ⟨⟨0, (), rfl, hc0.symm, (vp_updL (fo) (Int32.toNatClampNeg 0) (r.toInt64)), x2, ds2, ⟨hk2, fun _ => x_up0.trans (by rw [hr0])⟩, by rw [ht]; exact hP, va_K.moved hW.alike hK, hD⟩, hS.F ht⟩) hS.2.2 d_L_freeBlocks_15
set_option maxHeartbeats 4000000 in
set_option maxRecDepth 100000 in
theorem w_cutAfter (l : Launch) (hl9 : l.stackTraces = false) (dC : Nat → ClassId) (dI : Nat → Nat → Nat) (sz : Nat) (h0 ho : Nat) (cB cD cR cO : ClassId) (fo : Nat → Int64) (x : KX) (ds : Nat → Option Dc) (σ : Sg) (a1 : Int32) (hs : sOk σ) (hk : kOk σ x ds) : Met l y_L_cutAfter k_L_cutAfter ({ frames := 9, cells := 2, slots := 264, locals := 179 } : Room) (va_Pc [.ref h0, .int a1, .ref ho] (fun U => pc_E (dC, dI) (([(ho, .inl (cO, 1, .inr (.inl (fo))))] : va_W) ++ kW h0 cB cD cR x ds) [(cO, .long), (cB, .byte), (cD, .object R_D), (cR, .object R_V)] sz U ∧ tw_ok U)) (va_Qi (fun (r : Int32) (_ : Unit) => r = (sCut σ a1).2.1) (fun (_ : Unit) t => ∃ (fo2 : Nat → Int64) (x2 : KX) (ds2 : Nat → Option Dc), (kOk (sCut σ a1).1 x2 ds2 ∧ ((sCut σ a1).2.1 = 0 → fo2 0 = (if (sCut σ a1).2.2 = 0 then 0 else 1))) ∧ at_E (dC, dI) (va_A (([(ho, .inl (cO, 1, .inr (.inl (fo))))] : va_W) ++ kW h0 cB cD cR x ds) sz) (([(ho, .inl (cO, 1, .inr (.inl (fo2))))] : va_W) ++ kW h0 cB cD cR x2 ds2) [(cO, .long), (cB, .byte), (cD, .object R_D), (cR, .object R_V)] t) (va_A (([(ho, .inl (cO, 1, .inr (.inl (fo))))] : va_W) ++ kW h0 cB cD cR x ds) sz)) 2 264 (va_A (([(ho, .inl (cO, 1, .inr (.inl (fo))))] : va_W) ++ kW h0 cB cD cR x ds) sz) := by
  refine va_MetW (hh := [(0, 16, 19, 13)]) (cc := method_19_code) (maxL := 4) (ret := (some .int)) (by decide) rfl ?_
  intro p e s m args below meth c s₁ B hml hv
  obtain ⟨rfl, ⟨hsz, hP, hK, hD0, hN⟩, hTw⟩ := hv
  have hx := B.exec
  have hb := B.bytes
  have hr := B.returns
  have hts := atoms_spec (ws := k_L_cutAfter) B.pre
  have hw0 : ∀ w ∈ w0, w.before _ s = true := fun w h => hts w (List.mem_cons_of_mem _ h)
  have hown : s.vm.findClass R_L = some m.cls := findClass_of_methodNamed B.named
  have hlocks := B.notSynchronized
  have htab := vx_table (x := y_L_cutAfter) B (hts (.codeWith y_L_cutAfter method_19_code 4 (some .int) [(0, 16, 19, 13)]) List.mem_cons_self)
  subst hsz
  have hD := hD0.self (sz := s.heap.size)
  generalize hAe : va_A (([(ho, .inl (cO, 1, .inr (.inl (fo))))] : va_W) ++ kW h0 cB cD cR x ds) s.heap.size = A at hD ⊢
  have hA : ∀ q : Nat, s.heap.size ≤ q → A q := fun q h => by rw [← hAe]; exact Or.inr h
  clear hAe hD0
  have hS : va_S A s.heap s.heap [] := va_S.rf
  have hl := lv_entry ([.ref h0, .int a1, .ref ho]) (n := 4) (Nat.le_of_ble_eq_true rfl)
  rw [lg_entry_eq]
  generalize (lg_sl ([.ref h0, .int a1, .ref ho]) ++ List.replicate (4 - (lg_sl ([.ref h0, .int a1, .ref ho])).length) Slot.unset).toArray = ls at hl ⊢
  have hl : lv_has ls 4 [(0, .ref h0), (1, .int a1), (2, .ref ho)] := hl
  refine lv_aload_n hx hb d_L_cutAfter_0 rfl (lv_at hl 2 rfl) ?_
  refine lv_iconst (v := 0) hx hb d_L_cutAfter_1 (by decide) ?_
  refine lv_aload_n hx hb d_L_cutAfter_2 rfl (lv_at hl 0 rfl) ?_
  refine lv_iload_n hx hb d_L_cutAfter_3 rfl (lv_at hl 1 rfl) ?_
  have hPc : va_P (dC, dI) vwCl (kW h0 cB cD cR x ds) s.heap := (hP.perm List.perm_append_comm).left
  have hDc : va_D A (kW h0 cB cD cR x ds) := (hD.perm List.perm_append_comm).left
  have hKc : va_K (dC, dI) vwCl (kT cB cD cR) s := hK.sub [1, 2, 3] rfl
  have hFc : ∀ q : Nat, va_A (kW h0 cB cD cR x ds) s.heap.size q → A q := fr_free hD hS hA List.perm_append_comm
  have hS0 := hS
  refine vx_calli (vx_runV (As := [.int a1]) (rest := [.int 0, .ref ho]) ⟨hx, hb, hml, hown, hw0⟩ (kMet.out (k_cutAfter l hl9 dC dI s.heap.size h0 cB cD cR x ds σ a1 hs hk)) (cwV 1 hw0 (gd_Vm wm_581 wm_582 wm_583 wm_308 wm_584) rfl rfl rfl (by decide +kernel) ⟨by decide +kernel, by decide +kernel⟩) (prV_T hPc hKc hDc hN hTw (fun _ _ => rfl) (va_recv hKc hPc (ci := 0) (q0 := 0) rfl rfl)) rfl rfl hl.1 rfl (lv_room (Nat.le_of_ble_eq_true rfl)) d_L_cutAfter_4 ⟨by decide +kernel, by decide +kernel⟩) hS (fun q _ h => hFc q h) hFc (fun q _ h => hFc q h) (fun E ce q9 u t H1 locs ht hvm hw hB hz1 hk1 hS hce hcv hcl => ?_) (fun r u t H1 locs ht hvm hw hB hz1 hk1 hS => ?_)
  · obtain ⟨⟨hne, hE⟩, x2, ds2, hk2, hP1, hK1, hD1⟩ := hB
    rw [ht] at hP1
    obtain ⟨hP, hD⟩ := fr_wld (W2 := (([(ho, .inl (cO, 1, .inr (.inl (fo))))] : va_W) ++ kW h0 cB cD cR x2 ds2)) (A := A) (fun q hq => hA q (Nat.le_trans hS0.1 hq)) hP hD List.perm_append_comm hk1 hP1 hD1 (kz List.perm_append_comm)
    clear hPc hDc hKc hFc hP1 hD1 hK1 hk1 hS0
    have hcd : (sCut σ a1).2.1 = 1 := cd_cutAfter.resolve_left hne
    have hE : E = "java/lang/IllegalStateException" := hE
    subst hE
    refine vx_catch (name := "java/lang/IllegalStateException") hown [] ⟨0, 16, 19, 13⟩ [] (htab.trans rfl) (fun z hz => by cases hz) (by decide) (by decide) (hw0 (.classLink "TextKeeperLaw" 13 "java/lang/IllegalStateException") wm_6) (va_Nw.use rfl (hN.1 (.castable "java/lang/IllegalStateException" "java/lang/IllegalStateException") (List.mem_of_getElem? (i := 0) rfl))) hce hcv hcl ?_
    refine W.eq (g2 := F0 m 19 ls [.ref q9]) rfl ?_
    generalize H1 = H at hP hS hce ⊢
    refine W.widen (k := 2) (n := 264) (by decide +kernel) (by decide +kernel) ?_
    refine lv_astore_n (lv' := [(3, .ref q9), (0, .ref h0), (1, .int a1), (2, .ref ho)]) hx hb d_L_cutAfter_19 rfl hl (by decide) rfl (fun ls hl => ?_)
    refine lv_iconst (v := 1) hx hb d_L_cutAfter_20 (by decide) ?_
    exact W.iret (v := 1) hx hb hr (fun t ht hW => ⟨⟨1, (), rfl, hcd.symm, fo, x2, ds2, ⟨hk2, fun h => absurd h hne⟩, by rw [ht]; exact hP, va_K.moved hW.alike hK, hD⟩, hS.F ht⟩) hS.2.2 d_L_cutAfter_21
  · obtain ⟨hc0, hr0⟩ : (sCut σ a1).2.1 = 0 ∧ r = (sCut σ a1).2.2 := hw
    obtain ⟨x2, ds2, hk2, hP1, hK1, hD1⟩ := hB
    rw [ht] at hP1
    obtain ⟨hP, hD⟩ := fr_wld (W2 := (([(ho, .inl (cO, 1, .inr (.inl (fo))))] : va_W) ++ kW h0 cB cD cR x2 ds2)) (A := A) (fun q hq => hA q (Nat.le_trans hS0.1 hq)) hP hD List.perm_append_comm hk1 hP1 hD1 (kz List.perm_append_comm)
    clear hPc hDc hKc hFc hP1 hD1 hK1 hk1 hS0
    generalize H1 = H at hP hS ⊢
    refine W.widen (k := 2) (n := 264) (by decide +kernel) (by decide +kernel) ?_
    refine lv_if_eq (tgt := 14) hx hb d_L_cutAfter_7 (by decide) (fun c_1 => ?_) (fun c_1 => ?_)
    · refine lv_lconst (v := 0) hx hb d_L_cutAfter_14 (by decide) ?_
      refine va_last hx hb hK hP hD hS 0 0 rfl rfl (by unfold vp_in; decide +kernel) d_L_cutAfter_15 (fun H locs hP hD hS => ?_)
      replace hP : va_P (dC, dI) vwCl (([(ho, .inl (cO, 1, .inr (.inl (vp_updL (fo) (Int32.toNatClampNeg 0) (0)))))] : va_W) ++ kW h0 cB cD cR x2 ds2) H := hP
      replace hD : va_D A (([(ho, .inl (cO, 1, .inr (.inl (vp_updL (fo) (Int32.toNatClampNeg 0) (0)))))] : va_W) ++ kW h0 cB cD cR x2 ds2) := hD
      refine lv_goto (tgt := 22) hx hb d_L_cutAfter_16 (by decide) ?_
      refine lv_iconst (v := 0) hx hb d_L_cutAfter_22 (by decide) ?_
      exact W.iret (v := 0) hx hb hr (fun t ht hW => ⟨⟨0, (), rfl, hc0.symm, (vp_updL (fo) (Int32.toNatClampNeg 0) (0)), x2, ds2, ⟨hk2, fun _ => x_up0.trans (by rw [← hr0]; exact (if_pos c_1).symm)⟩, by rw [ht]; exact hP, va_K.moved hW.alike hK, hD⟩, hS.F ht⟩) hS.2.2 d_L_cutAfter_23
    · refine lv_lconst (v := 1) hx hb d_L_cutAfter_10 (by decide) ?_
      refine lv_goto (tgt := 15) hx hb d_L_cutAfter_11 (by decide) ?_
      refine va_last hx hb hK hP hD hS 0 0 rfl rfl (by unfold vp_in; decide +kernel) d_L_cutAfter_15 (fun H locs hP hD hS => ?_)
      replace hP : va_P (dC, dI) vwCl (([(ho, .inl (cO, 1, .inr (.inl (vp_updL (fo) (Int32.toNatClampNeg 0) (1)))))] : va_W) ++ kW h0 cB cD cR x2 ds2) H := hP
      replace hD : va_D A (([(ho, .inl (cO, 1, .inr (.inl (vp_updL (fo) (Int32.toNatClampNeg 0) (1)))))] : va_W) ++ kW h0 cB cD cR x2 ds2) := hD
      refine lv_goto (tgt := 22) hx hb d_L_cutAfter_16 (by decide) ?_
      refine lv_iconst (v := 0) hx hb d_L_cutAfter_22 (by decide) ?_
      exact W.iret (v := 0) hx hb hr (fun t ht hW => ⟨⟨0, (), rfl, hc0.symm, (vp_updL (fo) (Int32.toNatClampNeg 0) (1)), x2, ds2, ⟨hk2, fun _ => x_up0.trans (by rw [← hr0]; exact (if_neg c_1).symm)⟩, by rw [ht]; exact hP, va_K.moved hW.alike hK, hD⟩, hS.F ht⟩) hS.2.2 d_L_cutAfter_23
end
section
set_option maxHeartbeats 4000000 in
set_option maxRecDepth 100000 in
theorem o_thrown (l : Launch) (dC : Nat → ClassId) (dI : Nat → Nat → Nat) (h0 : Nat) (z_thrown : Int32) (z_down : Int32) (z_lasts : Int32) (hbu : Nat) (z_size : Int32) (z_documents : Int32) (hgo : Nat) (hfi : Nat) (hma : Nat) (hln : Nat) (hau : Nat) (hsu : Nat) (hrow : Nat) (hmade : Nat) (z_madeSize : Int32) (hbase : Nat) (z_baseSize : Int32) (htx9 : Nat) (z_textSize : Int32) (z_textSteps : Int32) (hot : Nat) (z_otherSize : Int32) (hpc : Nat) (z_pieceSize : Int32) (z_at : Int32) (z_end : Int32) (z_value : Int32)  : Met l y_O_thrown k_O_thrown ({ frames := 0, cells := 0, slots := 0, locals := 0 } : Room) (va_Pc [.ref h0] (pc_R (dC, dI) [(h0, .inr (7, [.int z_thrown, .int z_down, .int z_lasts, .ref hbu, .int z_size, .int z_documents, .ref hgo, .ref hfi, .ref hma, .ref hln, .ref hau, .ref hsu, .ref hrow, .ref hmade, .int z_madeSize, .ref hbase, .int z_baseSize, .ref htx9, .int z_textSize, .int z_textSteps, .ref hot, .int z_otherSize, .ref hpc, .int z_pieceSize, .int z_at, .int z_end, .int z_value]))] [])) (vp_Si (fun r => r = z_thrown)) 0 0 (fun _ => False) := by
  refine Met.ofW (cc := prog_9_method_2_code) (maxL := 1) (ret := (some .int)) (by decide) rfl ?_
  intro p e s m args below meth c s₁ B hml hv
  obtain ⟨rfl, hP, hK, hN⟩ := hv
  have hx := B.exec
  have hb := B.bytes
  have hr := B.returns
  have hts := atoms_spec (ws := k_O_thrown) B.pre
  have hw0 : ∀ w ∈ w0, w.before _ s = true := fun w h => hts w (List.mem_cons_of_mem _ h)
  have hown : s.vm.findClass R_O = some m.cls := findClass_of_methodNamed B.named
  have hlocks := B.notSynchronized
  have hP : va_P (dC, dI) vwCl [(h0, .inr (7, [.int z_thrown, .int z_down, .int z_lasts, .ref hbu, .int z_size, .int z_documents, .ref hgo, .ref hfi, .ref hma, .ref hln, .ref hau, .ref hsu, .ref hrow, .ref hmade, .int z_madeSize, .ref hbase, .int z_baseSize, .ref htx9, .int z_textSize, .int z_textSteps, .ref hot, .int z_otherSize, .ref hpc, .int z_pieceSize, .int z_at, .int z_end, .int z_value]))] s.heap := hP
  have hl := lv_entry ([.ref h0]) (n := 1) (Nat.le_of_ble_eq_true rfl)
  rw [lg_entry_eq]
  generalize (lg_sl ([.ref h0]) ++ List.replicate (1 - (lg_sl ([.ref h0])).length) Slot.unset).toArray = ls at hl ⊢
  have hl : lv_has ls 1 [(0, .ref h0)] := hl
  refine lv_aload_n hx hb d_O_thrown_0 rfl (lv_at hl 0 rfl) ?_
  refine va_get (D := (dC, dI)) (ci := 7) (v := .int z_thrown) (C := R_O) (T := F_O) (N := 27) hx hb hw0 in_O hown hK hP 0 rfl rfl 0 (by decide) (hw0 (.fieldLink R_O 62 "TextKeeperModel" "thrown" "I") wm_330) (fun _ h9 => h9) rfl d_O_thrown_1 ?_
  exact W.iret (v := z_thrown) hx hb hr (fun t ht hW => ⟨z_thrown, rfl, rfl, ht⟩) (fun q h => by cases h) d_O_thrown_4
end
section
theorem d_L_law_0 : decode code 0 = .ok (.new 8, 3) := by decide +kernel
theorem d_L_law_3 : decode code 3 = .ok (.dup, 1) := by decide +kernel
theorem d_L_law_4 : decode code 4 = .ok (.invokespecial 75, 3) := by decide +kernel
theorem d_L_law_7 : decode code 7 = .ok (.astore_n 1, 1) := by decide +kernel
theorem d_L_law_8 : decode code 8 = .ok (.new 76, 3) := by decide +kernel
theorem d_L_law_11 : decode code 11 = .ok (.dup, 1) := by decide +kernel
theorem d_L_law_12 : decode code 12 = .ok (.invokespecial 78, 3) := by decide +kernel
theorem d_L_law_15 : decode code 15 = .ok (.astore_n 2, 1) := by decide +kernel
theorem d_L_law_16 : decode code 16 = .ok (.iconst 1, 1) := by decide +kernel
theorem d_L_law_17 : decode code 17 = .ok (.newarray .long, 2) := by decide +kernel
theorem d_L_law_19 : decode code 19 = .ok (.astore_n 3, 1) := by decide +kernel
theorem d_L_law_20 : decode code 20 = .ok (.iconst 0, 1) := by decide +kernel
theorem d_L_law_21 : decode code 21 = .ok (.istore 4, 2) := by decide +kernel
theorem d_L_law_23 : decode code 23 = .ok (.iload 4, 2) := by decide +kernel
theorem d_L_law_25 : decode code 25 = .ok (.aload_n 0, 1) := by decide +kernel
theorem d_L_law_26 : decode code 26 = .ok (.arraylength, 1) := by decide +kernel
theorem d_L_law_27 : decode code 27 = .ok (.bipush 6, 2) := by decide +kernel
theorem d_L_law_29 : decode code 29 = .ok (.isub, 1) := by decide +kernel
theorem d_L_law_30 : decode code 30 = .ok (.if_icmp .gt 818, 3) := by decide +kernel
theorem d_L_law_33 : decode code 33 = .ok (.aload_n 0, 1) := by decide +kernel
theorem d_L_law_34 : decode code 34 = .ok (.iload 4, 2) := by decide +kernel
theorem d_L_law_36 : decode code 36 = .ok (.iaload, 1) := by decide +kernel
theorem d_L_law_37 : decode code 37 = .ok (.bipush 31, 2) := by decide +kernel
theorem d_L_law_39 : decode code 39 = .ok (.iand, 1) := by decide +kernel
theorem d_L_law_40 : decode code 40 = .ok (.tableswitch 802 0 18 #[92, 168, 196, 212, 280, 320, 348, 364, 404, 432, 472, 524, 576, 640, 668, 732, 748, 776, 789], 92) := by decide +kernel
theorem d_L_law_132 : decode code 132 = .ok (.aload_n 1, 1) := by decide +kernel
theorem d_L_law_133 : decode code 133 = .ok (.aload_n 0, 1) := by decide +kernel
theorem d_L_law_134 : decode code 134 = .ok (.iload 4, 2) := by decide +kernel
theorem d_L_law_136 : decode code 136 = .ok (.iconst 1, 1) := by decide +kernel
theorem d_L_law_137 : decode code 137 = .ok (.iadd, 1) := by decide +kernel
theorem d_L_law_138 : decode code 138 = .ok (.iaload, 1) := by decide +kernel
theorem d_L_law_139 : decode code 139 = .ok (.aload_n 0, 1) := by decide +kernel
theorem d_L_law_140 : decode code 140 = .ok (.iload 4, 2) := by decide +kernel
theorem d_L_law_142 : decode code 142 = .ok (.iconst 2, 1) := by decide +kernel
theorem d_L_law_143 : decode code 143 = .ok (.iadd, 1) := by decide +kernel
theorem d_L_law_144 : decode code 144 = .ok (.iaload, 1) := by decide +kernel
theorem d_L_law_145 : decode code 145 = .ok (.aload_n 0, 1) := by decide +kernel
theorem d_L_law_146 : decode code 146 = .ok (.iload 4, 2) := by decide +kernel
theorem d_L_law_148 : decode code 148 = .ok (.iconst 3, 1) := by decide +kernel
theorem d_L_law_149 : decode code 149 = .ok (.iadd, 1) := by decide +kernel
theorem d_L_law_150 : decode code 150 = .ok (.iaload, 1) := by decide +kernel
theorem d_L_law_151 : decode code 151 = .ok (.aload_n 0, 1) := by decide +kernel
theorem d_L_law_152 : decode code 152 = .ok (.iload 4, 2) := by decide +kernel
theorem d_L_law_154 : decode code 154 = .ok (.iconst 4, 1) := by decide +kernel
theorem d_L_law_155 : decode code 155 = .ok (.iadd, 1) := by decide +kernel
theorem d_L_law_156 : decode code 156 = .ok (.iaload, 1) := by decide +kernel
theorem d_L_law_157 : decode code 157 = .ok (.aload_n 0, 1) := by decide +kernel
theorem d_L_law_158 : decode code 158 = .ok (.iload 4, 2) := by decide +kernel
theorem d_L_law_160 : decode code 160 = .ok (.iconst 5, 1) := by decide +kernel
theorem d_L_law_161 : decode code 161 = .ok (.iadd, 1) := by decide +kernel
theorem d_L_law_162 : decode code 162 = .ok (.iaload, 1) := by decide +kernel
theorem d_L_law_163 : decode code 163 = .ok (.aload_n 3, 1) := by decide +kernel
theorem d_L_law_164 : decode code 164 = .ok (.invokestatic 79, 3) := by decide +kernel
theorem d_L_law_167 : decode code 167 = .ok (.istore 5, 2) := by decide +kernel
theorem d_L_law_169 : decode code 169 = .ok (.aload_n 2, 1) := by decide +kernel
theorem d_L_law_170 : decode code 170 = .ok (.aload_n 0, 1) := by decide +kernel
theorem d_L_law_171 : decode code 171 = .ok (.iload 4, 2) := by decide +kernel
theorem d_L_law_173 : decode code 173 = .ok (.iconst 1, 1) := by decide +kernel
theorem d_L_law_174 : decode code 174 = .ok (.iadd, 1) := by decide +kernel
theorem d_L_law_175 : decode code 175 = .ok (.iaload, 1) := by decide +kernel
theorem d_L_law_176 : decode code 176 = .ok (.aload_n 0, 1) := by decide +kernel
theorem d_L_law_177 : decode code 177 = .ok (.iload 4, 2) := by decide +kernel
theorem d_L_law_179 : decode code 179 = .ok (.iconst 2, 1) := by decide +kernel
theorem d_L_law_180 : decode code 180 = .ok (.iadd, 1) := by decide +kernel
theorem d_L_law_181 : decode code 181 = .ok (.iaload, 1) := by decide +kernel
theorem d_L_law_182 : decode code 182 = .ok (.aload_n 0, 1) := by decide +kernel
theorem d_L_law_183 : decode code 183 = .ok (.iload 4, 2) := by decide +kernel
theorem d_L_law_185 : decode code 185 = .ok (.iconst 3, 1) := by decide +kernel
theorem d_L_law_186 : decode code 186 = .ok (.iadd, 1) := by decide +kernel
theorem d_L_law_187 : decode code 187 = .ok (.iaload, 1) := by decide +kernel
theorem d_L_law_188 : decode code 188 = .ok (.aload_n 0, 1) := by decide +kernel
theorem d_L_law_189 : decode code 189 = .ok (.iload 4, 2) := by decide +kernel
theorem d_L_law_191 : decode code 191 = .ok (.iconst 4, 1) := by decide +kernel
theorem d_L_law_192 : decode code 192 = .ok (.iadd, 1) := by decide +kernel
theorem d_L_law_193 : decode code 193 = .ok (.iaload, 1) := by decide +kernel
theorem d_L_law_194 : decode code 194 = .ok (.aload_n 0, 1) := by decide +kernel
theorem d_L_law_195 : decode code 195 = .ok (.iload 4, 2) := by decide +kernel
theorem d_L_law_197 : decode code 197 = .ok (.iconst 5, 1) := by decide +kernel
theorem d_L_law_198 : decode code 198 = .ok (.iadd, 1) := by decide +kernel
theorem d_L_law_199 : decode code 199 = .ok (.iaload, 1) := by decide +kernel
theorem d_L_law_200 : decode code 200 = .ok (.invokevirtual 84, 3) := by decide +kernel
theorem d_L_law_203 : decode code 203 = .ok (.istore 6, 2) := by decide +kernel
theorem d_L_law_205 : decode code 205 = .ok (.goto 637, 3) := by decide +kernel
theorem d_L_law_208 : decode code 208 = .ok (.aload_n 1, 1) := by decide +kernel
theorem d_L_law_209 : decode code 209 = .ok (.aload_n 0, 1) := by decide +kernel
theorem d_L_law_210 : decode code 210 = .ok (.iload 4, 2) := by decide +kernel
theorem d_L_law_212 : decode code 212 = .ok (.iconst 1, 1) := by decide +kernel
theorem d_L_law_213 : decode code 213 = .ok (.iadd, 1) := by decide +kernel
theorem d_L_law_214 : decode code 214 = .ok (.iaload, 1) := by decide +kernel
theorem d_L_law_215 : decode code 215 = .ok (.aload_n 3, 1) := by decide +kernel
theorem d_L_law_216 : decode code 216 = .ok (.invokestatic 85, 3) := by decide +kernel
theorem d_L_law_219 : decode code 219 = .ok (.istore 5, 2) := by decide +kernel
theorem d_L_law_221 : decode code 221 = .ok (.aload_n 2, 1) := by decide +kernel
theorem d_L_law_222 : decode code 222 = .ok (.aload_n 0, 1) := by decide +kernel
theorem d_L_law_223 : decode code 223 = .ok (.iload 4, 2) := by decide +kernel
theorem d_L_law_225 : decode code 225 = .ok (.iconst 1, 1) := by decide +kernel
theorem d_L_law_226 : decode code 226 = .ok (.iadd, 1) := by decide +kernel
theorem d_L_law_227 : decode code 227 = .ok (.iaload, 1) := by decide +kernel
theorem d_L_law_228 : decode code 228 = .ok (.invokevirtual 88, 3) := by decide +kernel
theorem d_L_law_231 : decode code 231 = .ok (.istore 6, 2) := by decide +kernel
theorem d_L_law_233 : decode code 233 = .ok (.goto 609, 3) := by decide +kernel
theorem d_L_law_236 : decode code 236 = .ok (.aload_n 1, 1) := by decide +kernel
theorem d_L_law_237 : decode code 237 = .ok (.aload_n 3, 1) := by decide +kernel
theorem d_L_law_238 : decode code 238 = .ok (.invokestatic 89, 3) := by decide +kernel
theorem d_L_law_241 : decode code 241 = .ok (.istore 5, 2) := by decide +kernel
theorem d_L_law_243 : decode code 243 = .ok (.aload_n 2, 1) := by decide +kernel
theorem d_L_law_244 : decode code 244 = .ok (.invokevirtual 92, 3) := by decide +kernel
theorem d_L_law_247 : decode code 247 = .ok (.istore 6, 2) := by decide +kernel
theorem d_L_law_249 : decode code 249 = .ok (.goto 593, 3) := by decide +kernel
theorem d_L_law_252 : decode code 252 = .ok (.aload_n 1, 1) := by decide +kernel
theorem d_L_law_253 : decode code 253 = .ok (.aload_n 0, 1) := by decide +kernel
theorem d_L_law_254 : decode code 254 = .ok (.iload 4, 2) := by decide +kernel
theorem d_L_law_256 : decode code 256 = .ok (.iconst 1, 1) := by decide +kernel
theorem d_L_law_257 : decode code 257 = .ok (.iadd, 1) := by decide +kernel
theorem d_L_law_258 : decode code 258 = .ok (.iaload, 1) := by decide +kernel
theorem d_L_law_259 : decode code 259 = .ok (.aload_n 0, 1) := by decide +kernel
theorem d_L_law_260 : decode code 260 = .ok (.iload 4, 2) := by decide +kernel
theorem d_L_law_262 : decode code 262 = .ok (.iconst 2, 1) := by decide +kernel
theorem d_L_law_263 : decode code 263 = .ok (.iadd, 1) := by decide +kernel
theorem d_L_law_264 : decode code 264 = .ok (.iaload, 1) := by decide +kernel
theorem d_L_law_265 : decode code 265 = .ok (.aload_n 3, 1) := by decide +kernel
theorem d_L_law_266 : decode code 266 = .ok (.invokestatic 93, 3) := by decide +kernel
theorem d_L_law_269 : decode code 269 = .ok (.istore 5, 2) := by decide +kernel
theorem d_L_law_271 : decode code 271 = .ok (.aload_n 2, 1) := by decide +kernel
theorem d_L_law_272 : decode code 272 = .ok (.aload_n 0, 1) := by decide +kernel
theorem d_L_law_273 : decode code 273 = .ok (.iload 4, 2) := by decide +kernel
theorem d_L_law_275 : decode code 275 = .ok (.iconst 1, 1) := by decide +kernel
theorem d_L_law_276 : decode code 276 = .ok (.iadd, 1) := by decide +kernel
theorem d_L_law_277 : decode code 277 = .ok (.iaload, 1) := by decide +kernel
theorem d_L_law_278 : decode code 278 = .ok (.aload_n 0, 1) := by decide +kernel
theorem d_L_law_279 : decode code 279 = .ok (.iload 4, 2) := by decide +kernel
theorem d_L_law_281 : decode code 281 = .ok (.iconst 2, 1) := by decide +kernel
theorem d_L_law_282 : decode code 282 = .ok (.iadd, 1) := by decide +kernel
theorem d_L_law_283 : decode code 283 = .ok (.iaload, 1) := by decide +kernel
theorem d_L_law_284 : decode code 284 = .ok (.invokevirtual 96, 3) := by decide +kernel
theorem d_L_law_287 : decode code 287 = .ok (.istore 6, 2) := by decide +kernel
theorem d_L_law_289 : decode code 289 = .ok (.aload_n 2, 1) := by decide +kernel
theorem d_L_law_290 : decode code 290 = .ok (.invokevirtual 97, 3) := by decide +kernel
theorem d_L_law_293 : decode code 293 = .ok (.iload 5, 2) := by decide +kernel
theorem d_L_law_295 : decode code 295 = .ok (.if_icmp .eq 5, 3) := by decide +kernel
theorem d_L_law_300 : decode code 300 = .ok (.iload 5, 2) := by decide +kernel
theorem d_L_law_302 : decode code 302 = .ok (.ifCond .ne 15, 3) := by decide +kernel
theorem d_L_law_305 : decode code 305 = .ok (.aload_n 3, 1) := by decide +kernel
theorem d_L_law_306 : decode code 306 = .ok (.iconst 0, 1) := by decide +kernel
theorem d_L_law_307 : decode code 307 = .ok (.laload, 1) := by decide +kernel
theorem d_L_law_308 : decode code 308 = .ok (.iload 6, 2) := by decide +kernel
theorem d_L_law_310 : decode code 310 = .ok (.i2l, 1) := by decide +kernel
theorem d_L_law_311 : decode code 311 = .ok (.lcmp, 1) := by decide +kernel
theorem d_L_law_312 : decode code 312 = .ok (.ifCond .eq 5, 3) := by decide +kernel
theorem d_L_law_317 : decode code 317 = .ok (.goto 525, 3) := by decide +kernel
theorem d_L_law_320 : decode code 320 = .ok (.aload_n 1, 1) := by decide +kernel
theorem d_L_law_321 : decode code 321 = .ok (.aload_n 0, 1) := by decide +kernel
theorem d_L_law_322 : decode code 322 = .ok (.iload 4, 2) := by decide +kernel
theorem d_L_law_324 : decode code 324 = .ok (.iconst 1, 1) := by decide +kernel
theorem d_L_law_325 : decode code 325 = .ok (.iadd, 1) := by decide +kernel
theorem d_L_law_326 : decode code 326 = .ok (.iaload, 1) := by decide +kernel
theorem d_L_law_327 : decode code 327 = .ok (.aload_n 0, 1) := by decide +kernel
theorem d_L_law_328 : decode code 328 = .ok (.iload 4, 2) := by decide +kernel
theorem d_L_law_330 : decode code 330 = .ok (.iconst 2, 1) := by decide +kernel
theorem d_L_law_331 : decode code 331 = .ok (.iadd, 1) := by decide +kernel
theorem d_L_law_332 : decode code 332 = .ok (.iaload, 1) := by decide +kernel
theorem d_L_law_333 : decode code 333 = .ok (.aload_n 3, 1) := by decide +kernel
theorem d_L_law_334 : decode code 334 = .ok (.invokestatic 100, 3) := by decide +kernel
theorem d_L_law_337 : decode code 337 = .ok (.istore 5, 2) := by decide +kernel
theorem d_L_law_339 : decode code 339 = .ok (.aload_n 2, 1) := by decide +kernel
theorem d_L_law_340 : decode code 340 = .ok (.aload_n 0, 1) := by decide +kernel
theorem d_L_law_341 : decode code 341 = .ok (.iload 4, 2) := by decide +kernel
theorem d_L_law_343 : decode code 343 = .ok (.iconst 1, 1) := by decide +kernel
theorem d_L_law_344 : decode code 344 = .ok (.iadd, 1) := by decide +kernel
theorem d_L_law_345 : decode code 345 = .ok (.iaload, 1) := by decide +kernel
theorem d_L_law_346 : decode code 346 = .ok (.aload_n 0, 1) := by decide +kernel
theorem d_L_law_347 : decode code 347 = .ok (.iload 4, 2) := by decide +kernel
theorem d_L_law_349 : decode code 349 = .ok (.iconst 2, 1) := by decide +kernel
theorem d_L_law_350 : decode code 350 = .ok (.iadd, 1) := by decide +kernel
theorem d_L_law_351 : decode code 351 = .ok (.iaload, 1) := by decide +kernel
theorem d_L_law_352 : decode code 352 = .ok (.invokevirtual 102, 3) := by decide +kernel
theorem d_L_law_355 : decode code 355 = .ok (.istore 6, 2) := by decide +kernel
theorem d_L_law_357 : decode code 357 = .ok (.goto 485, 3) := by decide +kernel
theorem d_L_law_360 : decode code 360 = .ok (.aload_n 1, 1) := by decide +kernel
theorem d_L_law_361 : decode code 361 = .ok (.aload_n 0, 1) := by decide +kernel
theorem d_L_law_362 : decode code 362 = .ok (.iload 4, 2) := by decide +kernel
theorem d_L_law_364 : decode code 364 = .ok (.iconst 1, 1) := by decide +kernel
theorem d_L_law_365 : decode code 365 = .ok (.iadd, 1) := by decide +kernel
theorem d_L_law_366 : decode code 366 = .ok (.iaload, 1) := by decide +kernel
theorem d_L_law_367 : decode code 367 = .ok (.aload_n 3, 1) := by decide +kernel
theorem d_L_law_368 : decode code 368 = .ok (.invokestatic 103, 3) := by decide +kernel
theorem d_L_law_371 : decode code 371 = .ok (.istore 5, 2) := by decide +kernel
theorem d_L_law_373 : decode code 373 = .ok (.aload_n 2, 1) := by decide +kernel
theorem d_L_law_374 : decode code 374 = .ok (.aload_n 0, 1) := by decide +kernel
theorem d_L_law_375 : decode code 375 = .ok (.iload 4, 2) := by decide +kernel
theorem d_L_law_377 : decode code 377 = .ok (.iconst 1, 1) := by decide +kernel
theorem d_L_law_378 : decode code 378 = .ok (.iadd, 1) := by decide +kernel
theorem d_L_law_379 : decode code 379 = .ok (.iaload, 1) := by decide +kernel
theorem d_L_law_380 : decode code 380 = .ok (.invokevirtual 105, 3) := by decide +kernel
theorem d_L_law_383 : decode code 383 = .ok (.istore 6, 2) := by decide +kernel
theorem d_L_law_385 : decode code 385 = .ok (.goto 457, 3) := by decide +kernel
theorem d_L_law_388 : decode code 388 = .ok (.aload_n 1, 1) := by decide +kernel
theorem d_L_law_389 : decode code 389 = .ok (.aload_n 3, 1) := by decide +kernel
theorem d_L_law_390 : decode code 390 = .ok (.invokestatic 106, 3) := by decide +kernel
theorem d_L_law_393 : decode code 393 = .ok (.istore 5, 2) := by decide +kernel
end
section
theorem d_L_law_395 : decode code 395 = .ok (.aload_n 2, 1) := by decide +kernel
theorem d_L_law_396 : decode code 396 = .ok (.invokevirtual 108, 3) := by decide +kernel
theorem d_L_law_399 : decode code 399 = .ok (.istore 6, 2) := by decide +kernel
theorem d_L_law_401 : decode code 401 = .ok (.goto 441, 3) := by decide +kernel
theorem d_L_law_404 : decode code 404 = .ok (.aload_n 1, 1) := by decide +kernel
theorem d_L_law_405 : decode code 405 = .ok (.aload_n 0, 1) := by decide +kernel
theorem d_L_law_406 : decode code 406 = .ok (.iload 4, 2) := by decide +kernel
theorem d_L_law_408 : decode code 408 = .ok (.iconst 1, 1) := by decide +kernel
theorem d_L_law_409 : decode code 409 = .ok (.iadd, 1) := by decide +kernel
theorem d_L_law_410 : decode code 410 = .ok (.iaload, 1) := by decide +kernel
theorem d_L_law_411 : decode code 411 = .ok (.aload_n 0, 1) := by decide +kernel
theorem d_L_law_412 : decode code 412 = .ok (.iload 4, 2) := by decide +kernel
theorem d_L_law_414 : decode code 414 = .ok (.iconst 2, 1) := by decide +kernel
theorem d_L_law_415 : decode code 415 = .ok (.iadd, 1) := by decide +kernel
theorem d_L_law_416 : decode code 416 = .ok (.iaload, 1) := by decide +kernel
theorem d_L_law_417 : decode code 417 = .ok (.aload_n 3, 1) := by decide +kernel
theorem d_L_law_418 : decode code 418 = .ok (.invokestatic 109, 3) := by decide +kernel
theorem d_L_law_421 : decode code 421 = .ok (.istore 5, 2) := by decide +kernel
theorem d_L_law_423 : decode code 423 = .ok (.aload_n 2, 1) := by decide +kernel
theorem d_L_law_424 : decode code 424 = .ok (.aload_n 0, 1) := by decide +kernel
theorem d_L_law_425 : decode code 425 = .ok (.iload 4, 2) := by decide +kernel
theorem d_L_law_427 : decode code 427 = .ok (.iconst 1, 1) := by decide +kernel
theorem d_L_law_428 : decode code 428 = .ok (.iadd, 1) := by decide +kernel
theorem d_L_law_429 : decode code 429 = .ok (.iaload, 1) := by decide +kernel
theorem d_L_law_430 : decode code 430 = .ok (.aload_n 0, 1) := by decide +kernel
theorem d_L_law_431 : decode code 431 = .ok (.iload 4, 2) := by decide +kernel
theorem d_L_law_433 : decode code 433 = .ok (.iconst 2, 1) := by decide +kernel
theorem d_L_law_434 : decode code 434 = .ok (.iadd, 1) := by decide +kernel
theorem d_L_law_435 : decode code 435 = .ok (.iaload, 1) := by decide +kernel
theorem d_L_law_436 : decode code 436 = .ok (.invokevirtual 111, 3) := by decide +kernel
theorem d_L_law_439 : decode code 439 = .ok (.istore 6, 2) := by decide +kernel
theorem d_L_law_441 : decode code 441 = .ok (.goto 401, 3) := by decide +kernel
theorem d_L_law_444 : decode code 444 = .ok (.aload_n 1, 1) := by decide +kernel
theorem d_L_law_445 : decode code 445 = .ok (.aload_n 0, 1) := by decide +kernel
theorem d_L_law_446 : decode code 446 = .ok (.iload 4, 2) := by decide +kernel
theorem d_L_law_448 : decode code 448 = .ok (.iconst 1, 1) := by decide +kernel
theorem d_L_law_449 : decode code 449 = .ok (.iadd, 1) := by decide +kernel
theorem d_L_law_450 : decode code 450 = .ok (.iaload, 1) := by decide +kernel
theorem d_L_law_451 : decode code 451 = .ok (.aload_n 3, 1) := by decide +kernel
theorem d_L_law_452 : decode code 452 = .ok (.invokestatic 112, 3) := by decide +kernel
theorem d_L_law_455 : decode code 455 = .ok (.istore 5, 2) := by decide +kernel
theorem d_L_law_457 : decode code 457 = .ok (.aload_n 2, 1) := by decide +kernel
theorem d_L_law_458 : decode code 458 = .ok (.aload_n 0, 1) := by decide +kernel
theorem d_L_law_459 : decode code 459 = .ok (.iload 4, 2) := by decide +kernel
theorem d_L_law_461 : decode code 461 = .ok (.iconst 1, 1) := by decide +kernel
theorem d_L_law_462 : decode code 462 = .ok (.iadd, 1) := by decide +kernel
theorem d_L_law_463 : decode code 463 = .ok (.iaload, 1) := by decide +kernel
theorem d_L_law_464 : decode code 464 = .ok (.invokevirtual 114, 3) := by decide +kernel
theorem d_L_law_467 : decode code 467 = .ok (.istore 6, 2) := by decide +kernel
theorem d_L_law_469 : decode code 469 = .ok (.goto 373, 3) := by decide +kernel
theorem d_L_law_472 : decode code 472 = .ok (.aload_n 1, 1) := by decide +kernel
theorem d_L_law_473 : decode code 473 = .ok (.aload_n 0, 1) := by decide +kernel
theorem d_L_law_474 : decode code 474 = .ok (.iload 4, 2) := by decide +kernel
theorem d_L_law_476 : decode code 476 = .ok (.iconst 1, 1) := by decide +kernel
theorem d_L_law_477 : decode code 477 = .ok (.iadd, 1) := by decide +kernel
theorem d_L_law_478 : decode code 478 = .ok (.iaload, 1) := by decide +kernel
theorem d_L_law_479 : decode code 479 = .ok (.aload_n 0, 1) := by decide +kernel
theorem d_L_law_480 : decode code 480 = .ok (.iload 4, 2) := by decide +kernel
theorem d_L_law_482 : decode code 482 = .ok (.iconst 2, 1) := by decide +kernel
theorem d_L_law_483 : decode code 483 = .ok (.iadd, 1) := by decide +kernel
theorem d_L_law_484 : decode code 484 = .ok (.iaload, 1) := by decide +kernel
theorem d_L_law_485 : decode code 485 = .ok (.aload_n 3, 1) := by decide +kernel
theorem d_L_law_486 : decode code 486 = .ok (.invokestatic 115, 3) := by decide +kernel
theorem d_L_law_489 : decode code 489 = .ok (.istore 5, 2) := by decide +kernel
theorem d_L_law_491 : decode code 491 = .ok (.aload_n 2, 1) := by decide +kernel
theorem d_L_law_492 : decode code 492 = .ok (.aload_n 0, 1) := by decide +kernel
theorem d_L_law_493 : decode code 493 = .ok (.iload 4, 2) := by decide +kernel
theorem d_L_law_495 : decode code 495 = .ok (.iconst 1, 1) := by decide +kernel
theorem d_L_law_496 : decode code 496 = .ok (.iadd, 1) := by decide +kernel
theorem d_L_law_497 : decode code 497 = .ok (.iaload, 1) := by decide +kernel
theorem d_L_law_498 : decode code 498 = .ok (.aload_n 0, 1) := by decide +kernel
theorem d_L_law_499 : decode code 499 = .ok (.iload 4, 2) := by decide +kernel
theorem d_L_law_501 : decode code 501 = .ok (.iconst 2, 1) := by decide +kernel
theorem d_L_law_502 : decode code 502 = .ok (.iadd, 1) := by decide +kernel
theorem d_L_law_503 : decode code 503 = .ok (.iaload, 1) := by decide +kernel
theorem d_L_law_504 : decode code 504 = .ok (.invokevirtual 117, 3) := by decide +kernel
theorem d_L_law_507 : decode code 507 = .ok (.istore 6, 2) := by decide +kernel
theorem d_L_law_509 : decode code 509 = .ok (.goto 333, 3) := by decide +kernel
theorem d_L_law_512 : decode code 512 = .ok (.aload_n 1, 1) := by decide +kernel
theorem d_L_law_513 : decode code 513 = .ok (.aload_n 0, 1) := by decide +kernel
theorem d_L_law_514 : decode code 514 = .ok (.iload 4, 2) := by decide +kernel
theorem d_L_law_516 : decode code 516 = .ok (.iconst 1, 1) := by decide +kernel
theorem d_L_law_517 : decode code 517 = .ok (.iadd, 1) := by decide +kernel
theorem d_L_law_518 : decode code 518 = .ok (.iaload, 1) := by decide +kernel
theorem d_L_law_519 : decode code 519 = .ok (.aload_n 0, 1) := by decide +kernel
theorem d_L_law_520 : decode code 520 = .ok (.iload 4, 2) := by decide +kernel
theorem d_L_law_522 : decode code 522 = .ok (.iconst 2, 1) := by decide +kernel
theorem d_L_law_523 : decode code 523 = .ok (.iadd, 1) := by decide +kernel
theorem d_L_law_524 : decode code 524 = .ok (.iaload, 1) := by decide +kernel
theorem d_L_law_525 : decode code 525 = .ok (.aload_n 0, 1) := by decide +kernel
theorem d_L_law_526 : decode code 526 = .ok (.iload 4, 2) := by decide +kernel
theorem d_L_law_528 : decode code 528 = .ok (.iconst 3, 1) := by decide +kernel
theorem d_L_law_529 : decode code 529 = .ok (.iadd, 1) := by decide +kernel
theorem d_L_law_530 : decode code 530 = .ok (.iaload, 1) := by decide +kernel
theorem d_L_law_531 : decode code 531 = .ok (.aload_n 3, 1) := by decide +kernel
theorem d_L_law_532 : decode code 532 = .ok (.invokestatic 118, 3) := by decide +kernel
theorem d_L_law_535 : decode code 535 = .ok (.istore 5, 2) := by decide +kernel
theorem d_L_law_537 : decode code 537 = .ok (.aload_n 2, 1) := by decide +kernel
theorem d_L_law_538 : decode code 538 = .ok (.aload_n 0, 1) := by decide +kernel
theorem d_L_law_539 : decode code 539 = .ok (.iload 4, 2) := by decide +kernel
theorem d_L_law_541 : decode code 541 = .ok (.iconst 1, 1) := by decide +kernel
theorem d_L_law_542 : decode code 542 = .ok (.iadd, 1) := by decide +kernel
theorem d_L_law_543 : decode code 543 = .ok (.iaload, 1) := by decide +kernel
theorem d_L_law_544 : decode code 544 = .ok (.aload_n 0, 1) := by decide +kernel
theorem d_L_law_545 : decode code 545 = .ok (.iload 4, 2) := by decide +kernel
theorem d_L_law_547 : decode code 547 = .ok (.iconst 2, 1) := by decide +kernel
theorem d_L_law_548 : decode code 548 = .ok (.iadd, 1) := by decide +kernel
theorem d_L_law_549 : decode code 549 = .ok (.iaload, 1) := by decide +kernel
theorem d_L_law_550 : decode code 550 = .ok (.aload_n 0, 1) := by decide +kernel
theorem d_L_law_551 : decode code 551 = .ok (.iload 4, 2) := by decide +kernel
theorem d_L_law_553 : decode code 553 = .ok (.iconst 3, 1) := by decide +kernel
theorem d_L_law_554 : decode code 554 = .ok (.iadd, 1) := by decide +kernel
theorem d_L_law_555 : decode code 555 = .ok (.iaload, 1) := by decide +kernel
theorem d_L_law_556 : decode code 556 = .ok (.invokevirtual 121, 3) := by decide +kernel
theorem d_L_law_559 : decode code 559 = .ok (.istore 6, 2) := by decide +kernel
theorem d_L_law_561 : decode code 561 = .ok (.goto 281, 3) := by decide +kernel
theorem d_L_law_564 : decode code 564 = .ok (.aload_n 1, 1) := by decide +kernel
theorem d_L_law_565 : decode code 565 = .ok (.aload_n 0, 1) := by decide +kernel
theorem d_L_law_566 : decode code 566 = .ok (.iload 4, 2) := by decide +kernel
theorem d_L_law_568 : decode code 568 = .ok (.iconst 1, 1) := by decide +kernel
theorem d_L_law_569 : decode code 569 = .ok (.iadd, 1) := by decide +kernel
theorem d_L_law_570 : decode code 570 = .ok (.iaload, 1) := by decide +kernel
theorem d_L_law_571 : decode code 571 = .ok (.aload_n 0, 1) := by decide +kernel
theorem d_L_law_572 : decode code 572 = .ok (.iload 4, 2) := by decide +kernel
theorem d_L_law_574 : decode code 574 = .ok (.iconst 2, 1) := by decide +kernel
theorem d_L_law_575 : decode code 575 = .ok (.iadd, 1) := by decide +kernel
theorem d_L_law_576 : decode code 576 = .ok (.iaload, 1) := by decide +kernel
theorem d_L_law_577 : decode code 577 = .ok (.aload_n 0, 1) := by decide +kernel
theorem d_L_law_578 : decode code 578 = .ok (.iload 4, 2) := by decide +kernel
theorem d_L_law_580 : decode code 580 = .ok (.iconst 3, 1) := by decide +kernel
theorem d_L_law_581 : decode code 581 = .ok (.iadd, 1) := by decide +kernel
theorem d_L_law_582 : decode code 582 = .ok (.iaload, 1) := by decide +kernel
theorem d_L_law_583 : decode code 583 = .ok (.aload_n 3, 1) := by decide +kernel
theorem d_L_law_584 : decode code 584 = .ok (.invokestatic 122, 3) := by decide +kernel
theorem d_L_law_587 : decode code 587 = .ok (.istore 5, 2) := by decide +kernel
theorem d_L_law_589 : decode code 589 = .ok (.aload_n 2, 1) := by decide +kernel
theorem d_L_law_590 : decode code 590 = .ok (.aload_n 0, 1) := by decide +kernel
theorem d_L_law_591 : decode code 591 = .ok (.iload 4, 2) := by decide +kernel
theorem d_L_law_593 : decode code 593 = .ok (.iconst 1, 1) := by decide +kernel
theorem d_L_law_594 : decode code 594 = .ok (.iadd, 1) := by decide +kernel
theorem d_L_law_595 : decode code 595 = .ok (.iaload, 1) := by decide +kernel
theorem d_L_law_596 : decode code 596 = .ok (.aload_n 0, 1) := by decide +kernel
theorem d_L_law_597 : decode code 597 = .ok (.iload 4, 2) := by decide +kernel
theorem d_L_law_599 : decode code 599 = .ok (.iconst 2, 1) := by decide +kernel
theorem d_L_law_600 : decode code 600 = .ok (.iadd, 1) := by decide +kernel
theorem d_L_law_601 : decode code 601 = .ok (.iaload, 1) := by decide +kernel
theorem d_L_law_602 : decode code 602 = .ok (.aload_n 0, 1) := by decide +kernel
theorem d_L_law_603 : decode code 603 = .ok (.iload 4, 2) := by decide +kernel
theorem d_L_law_605 : decode code 605 = .ok (.iconst 3, 1) := by decide +kernel
theorem d_L_law_606 : decode code 606 = .ok (.iadd, 1) := by decide +kernel
theorem d_L_law_607 : decode code 607 = .ok (.iaload, 1) := by decide +kernel
theorem d_L_law_608 : decode code 608 = .ok (.invokevirtual 124, 3) := by decide +kernel
theorem d_L_law_611 : decode code 611 = .ok (.istore 6, 2) := by decide +kernel
theorem d_L_law_613 : decode code 613 = .ok (.goto 229, 3) := by decide +kernel
theorem d_L_law_616 : decode code 616 = .ok (.aload_n 1, 1) := by decide +kernel
theorem d_L_law_617 : decode code 617 = .ok (.aload_n 0, 1) := by decide +kernel
theorem d_L_law_618 : decode code 618 = .ok (.iload 4, 2) := by decide +kernel
theorem d_L_law_620 : decode code 620 = .ok (.iconst 1, 1) := by decide +kernel
theorem d_L_law_621 : decode code 621 = .ok (.iadd, 1) := by decide +kernel
theorem d_L_law_622 : decode code 622 = .ok (.iaload, 1) := by decide +kernel
theorem d_L_law_623 : decode code 623 = .ok (.aload_n 0, 1) := by decide +kernel
theorem d_L_law_624 : decode code 624 = .ok (.iload 4, 2) := by decide +kernel
theorem d_L_law_626 : decode code 626 = .ok (.iconst 2, 1) := by decide +kernel
theorem d_L_law_627 : decode code 627 = .ok (.iadd, 1) := by decide +kernel
theorem d_L_law_628 : decode code 628 = .ok (.iaload, 1) := by decide +kernel
theorem d_L_law_629 : decode code 629 = .ok (.aload_n 0, 1) := by decide +kernel
theorem d_L_law_630 : decode code 630 = .ok (.iload 4, 2) := by decide +kernel
theorem d_L_law_632 : decode code 632 = .ok (.iconst 3, 1) := by decide +kernel
theorem d_L_law_633 : decode code 633 = .ok (.iadd, 1) := by decide +kernel
theorem d_L_law_634 : decode code 634 = .ok (.iaload, 1) := by decide +kernel
theorem d_L_law_635 : decode code 635 = .ok (.aload_n 0, 1) := by decide +kernel
theorem d_L_law_636 : decode code 636 = .ok (.iload 4, 2) := by decide +kernel
theorem d_L_law_638 : decode code 638 = .ok (.iconst 4, 1) := by decide +kernel
theorem d_L_law_639 : decode code 639 = .ok (.iadd, 1) := by decide +kernel
theorem d_L_law_640 : decode code 640 = .ok (.iaload, 1) := by decide +kernel
theorem d_L_law_641 : decode code 641 = .ok (.aload_n 3, 1) := by decide +kernel
theorem d_L_law_642 : decode code 642 = .ok (.invokestatic 125, 3) := by decide +kernel
theorem d_L_law_645 : decode code 645 = .ok (.istore 5, 2) := by decide +kernel
theorem d_L_law_647 : decode code 647 = .ok (.aload_n 2, 1) := by decide +kernel
theorem d_L_law_648 : decode code 648 = .ok (.aload_n 0, 1) := by decide +kernel
theorem d_L_law_649 : decode code 649 = .ok (.iload 4, 2) := by decide +kernel
theorem d_L_law_651 : decode code 651 = .ok (.iconst 1, 1) := by decide +kernel
theorem d_L_law_652 : decode code 652 = .ok (.iadd, 1) := by decide +kernel
theorem d_L_law_653 : decode code 653 = .ok (.iaload, 1) := by decide +kernel
theorem d_L_law_654 : decode code 654 = .ok (.aload_n 0, 1) := by decide +kernel
theorem d_L_law_655 : decode code 655 = .ok (.iload 4, 2) := by decide +kernel
theorem d_L_law_657 : decode code 657 = .ok (.iconst 2, 1) := by decide +kernel
theorem d_L_law_658 : decode code 658 = .ok (.iadd, 1) := by decide +kernel
theorem d_L_law_659 : decode code 659 = .ok (.iaload, 1) := by decide +kernel
theorem d_L_law_660 : decode code 660 = .ok (.aload_n 0, 1) := by decide +kernel
theorem d_L_law_661 : decode code 661 = .ok (.iload 4, 2) := by decide +kernel
theorem d_L_law_663 : decode code 663 = .ok (.iconst 3, 1) := by decide +kernel
theorem d_L_law_664 : decode code 664 = .ok (.iadd, 1) := by decide +kernel
theorem d_L_law_665 : decode code 665 = .ok (.iaload, 1) := by decide +kernel
theorem d_L_law_666 : decode code 666 = .ok (.aload_n 0, 1) := by decide +kernel
theorem d_L_law_667 : decode code 667 = .ok (.iload 4, 2) := by decide +kernel
theorem d_L_law_669 : decode code 669 = .ok (.iconst 4, 1) := by decide +kernel
theorem d_L_law_670 : decode code 670 = .ok (.iadd, 1) := by decide +kernel
theorem d_L_law_671 : decode code 671 = .ok (.iaload, 1) := by decide +kernel
theorem d_L_law_672 : decode code 672 = .ok (.invokevirtual 128, 3) := by decide +kernel
end
section
theorem d_L_law_675 : decode code 675 = .ok (.istore 6, 2) := by decide +kernel
theorem d_L_law_677 : decode code 677 = .ok (.goto 165, 3) := by decide +kernel
theorem d_L_law_680 : decode code 680 = .ok (.aload_n 1, 1) := by decide +kernel
theorem d_L_law_681 : decode code 681 = .ok (.aload_n 0, 1) := by decide +kernel
theorem d_L_law_682 : decode code 682 = .ok (.iload 4, 2) := by decide +kernel
theorem d_L_law_684 : decode code 684 = .ok (.iconst 1, 1) := by decide +kernel
theorem d_L_law_685 : decode code 685 = .ok (.iadd, 1) := by decide +kernel
theorem d_L_law_686 : decode code 686 = .ok (.iaload, 1) := by decide +kernel
theorem d_L_law_687 : decode code 687 = .ok (.aload_n 3, 1) := by decide +kernel
theorem d_L_law_688 : decode code 688 = .ok (.invokestatic 129, 3) := by decide +kernel
theorem d_L_law_691 : decode code 691 = .ok (.istore 5, 2) := by decide +kernel
theorem d_L_law_693 : decode code 693 = .ok (.aload_n 2, 1) := by decide +kernel
theorem d_L_law_694 : decode code 694 = .ok (.aload_n 0, 1) := by decide +kernel
theorem d_L_law_695 : decode code 695 = .ok (.iload 4, 2) := by decide +kernel
theorem d_L_law_697 : decode code 697 = .ok (.iconst 1, 1) := by decide +kernel
theorem d_L_law_698 : decode code 698 = .ok (.iadd, 1) := by decide +kernel
theorem d_L_law_699 : decode code 699 = .ok (.iaload, 1) := by decide +kernel
theorem d_L_law_700 : decode code 700 = .ok (.invokevirtual 131, 3) := by decide +kernel
theorem d_L_law_703 : decode code 703 = .ok (.istore 6, 2) := by decide +kernel
theorem d_L_law_705 : decode code 705 = .ok (.goto 137, 3) := by decide +kernel
theorem d_L_law_708 : decode code 708 = .ok (.aload_n 1, 1) := by decide +kernel
theorem d_L_law_709 : decode code 709 = .ok (.aload_n 0, 1) := by decide +kernel
theorem d_L_law_710 : decode code 710 = .ok (.iload 4, 2) := by decide +kernel
theorem d_L_law_712 : decode code 712 = .ok (.iconst 1, 1) := by decide +kernel
theorem d_L_law_713 : decode code 713 = .ok (.iadd, 1) := by decide +kernel
theorem d_L_law_714 : decode code 714 = .ok (.iaload, 1) := by decide +kernel
theorem d_L_law_715 : decode code 715 = .ok (.aload_n 0, 1) := by decide +kernel
theorem d_L_law_716 : decode code 716 = .ok (.iload 4, 2) := by decide +kernel
theorem d_L_law_718 : decode code 718 = .ok (.iconst 2, 1) := by decide +kernel
theorem d_L_law_719 : decode code 719 = .ok (.iadd, 1) := by decide +kernel
theorem d_L_law_720 : decode code 720 = .ok (.iaload, 1) := by decide +kernel
theorem d_L_law_721 : decode code 721 = .ok (.aload_n 0, 1) := by decide +kernel
theorem d_L_law_722 : decode code 722 = .ok (.iload 4, 2) := by decide +kernel
theorem d_L_law_724 : decode code 724 = .ok (.iconst 3, 1) := by decide +kernel
theorem d_L_law_725 : decode code 725 = .ok (.iadd, 1) := by decide +kernel
theorem d_L_law_726 : decode code 726 = .ok (.iaload, 1) := by decide +kernel
theorem d_L_law_727 : decode code 727 = .ok (.aload_n 0, 1) := by decide +kernel
theorem d_L_law_728 : decode code 728 = .ok (.iload 4, 2) := by decide +kernel
theorem d_L_law_730 : decode code 730 = .ok (.iconst 4, 1) := by decide +kernel
theorem d_L_law_731 : decode code 731 = .ok (.iadd, 1) := by decide +kernel
theorem d_L_law_732 : decode code 732 = .ok (.iaload, 1) := by decide +kernel
theorem d_L_law_733 : decode code 733 = .ok (.aload_n 3, 1) := by decide +kernel
theorem d_L_law_734 : decode code 734 = .ok (.invokestatic 132, 3) := by decide +kernel
theorem d_L_law_737 : decode code 737 = .ok (.istore 5, 2) := by decide +kernel
theorem d_L_law_739 : decode code 739 = .ok (.aload_n 2, 1) := by decide +kernel
theorem d_L_law_740 : decode code 740 = .ok (.aload_n 0, 1) := by decide +kernel
theorem d_L_law_741 : decode code 741 = .ok (.iload 4, 2) := by decide +kernel
theorem d_L_law_743 : decode code 743 = .ok (.iconst 1, 1) := by decide +kernel
theorem d_L_law_744 : decode code 744 = .ok (.iadd, 1) := by decide +kernel
theorem d_L_law_745 : decode code 745 = .ok (.iaload, 1) := by decide +kernel
theorem d_L_law_746 : decode code 746 = .ok (.aload_n 0, 1) := by decide +kernel
theorem d_L_law_747 : decode code 747 = .ok (.iload 4, 2) := by decide +kernel
theorem d_L_law_749 : decode code 749 = .ok (.iconst 2, 1) := by decide +kernel
theorem d_L_law_750 : decode code 750 = .ok (.iadd, 1) := by decide +kernel
theorem d_L_law_751 : decode code 751 = .ok (.iaload, 1) := by decide +kernel
theorem d_L_law_752 : decode code 752 = .ok (.aload_n 0, 1) := by decide +kernel
theorem d_L_law_753 : decode code 753 = .ok (.iload 4, 2) := by decide +kernel
theorem d_L_law_755 : decode code 755 = .ok (.iconst 3, 1) := by decide +kernel
theorem d_L_law_756 : decode code 756 = .ok (.iadd, 1) := by decide +kernel
theorem d_L_law_757 : decode code 757 = .ok (.iaload, 1) := by decide +kernel
theorem d_L_law_758 : decode code 758 = .ok (.aload_n 0, 1) := by decide +kernel
theorem d_L_law_759 : decode code 759 = .ok (.iload 4, 2) := by decide +kernel
theorem d_L_law_761 : decode code 761 = .ok (.iconst 4, 1) := by decide +kernel
theorem d_L_law_762 : decode code 762 = .ok (.iadd, 1) := by decide +kernel
theorem d_L_law_763 : decode code 763 = .ok (.iaload, 1) := by decide +kernel
theorem d_L_law_764 : decode code 764 = .ok (.invokevirtual 134, 3) := by decide +kernel
theorem d_L_law_767 : decode code 767 = .ok (.istore 6, 2) := by decide +kernel
theorem d_L_law_769 : decode code 769 = .ok (.goto 73, 3) := by decide +kernel
theorem d_L_law_772 : decode code 772 = .ok (.aload_n 1, 1) := by decide +kernel
theorem d_L_law_773 : decode code 773 = .ok (.aload_n 3, 1) := by decide +kernel
theorem d_L_law_774 : decode code 774 = .ok (.invokestatic 135, 3) := by decide +kernel
theorem d_L_law_777 : decode code 777 = .ok (.istore 5, 2) := by decide +kernel
theorem d_L_law_779 : decode code 779 = .ok (.aload_n 2, 1) := by decide +kernel
theorem d_L_law_780 : decode code 780 = .ok (.invokevirtual 137, 3) := by decide +kernel
theorem d_L_law_783 : decode code 783 = .ok (.istore 6, 2) := by decide +kernel
theorem d_L_law_785 : decode code 785 = .ok (.goto 57, 3) := by decide +kernel
theorem d_L_law_788 : decode code 788 = .ok (.aload_n 1, 1) := by decide +kernel
theorem d_L_law_789 : decode code 789 = .ok (.aload_n 0, 1) := by decide +kernel
theorem d_L_law_790 : decode code 790 = .ok (.iload 4, 2) := by decide +kernel
theorem d_L_law_792 : decode code 792 = .ok (.iconst 1, 1) := by decide +kernel
theorem d_L_law_793 : decode code 793 = .ok (.iadd, 1) := by decide +kernel
theorem d_L_law_794 : decode code 794 = .ok (.iaload, 1) := by decide +kernel
theorem d_L_law_795 : decode code 795 = .ok (.aload_n 3, 1) := by decide +kernel
theorem d_L_law_796 : decode code 796 = .ok (.invokestatic 138, 3) := by decide +kernel
theorem d_L_law_799 : decode code 799 = .ok (.istore 5, 2) := by decide +kernel
theorem d_L_law_801 : decode code 801 = .ok (.aload_n 2, 1) := by decide +kernel
theorem d_L_law_802 : decode code 802 = .ok (.aload_n 0, 1) := by decide +kernel
theorem d_L_law_803 : decode code 803 = .ok (.iload 4, 2) := by decide +kernel
theorem d_L_law_805 : decode code 805 = .ok (.iconst 1, 1) := by decide +kernel
theorem d_L_law_806 : decode code 806 = .ok (.iadd, 1) := by decide +kernel
theorem d_L_law_807 : decode code 807 = .ok (.iaload, 1) := by decide +kernel
theorem d_L_law_808 : decode code 808 = .ok (.invokevirtual 140, 3) := by decide +kernel
theorem d_L_law_811 : decode code 811 = .ok (.istore 6, 2) := by decide +kernel
theorem d_L_law_813 : decode code 813 = .ok (.goto 29, 3) := by decide +kernel
theorem d_L_law_816 : decode code 816 = .ok (.aload_n 1, 1) := by decide +kernel
theorem d_L_law_817 : decode code 817 = .ok (.invokevirtual 141, 3) := by decide +kernel
theorem d_L_law_820 : decode code 820 = .ok (.pop, 1) := by decide +kernel
theorem d_L_law_821 : decode code 821 = .ok (.aload_n 2, 1) := by decide +kernel
theorem d_L_law_822 : decode code 822 = .ok (.invokevirtual 145, 3) := by decide +kernel
theorem d_L_law_825 : decode code 825 = .ok (.pop, 1) := by decide +kernel
theorem d_L_law_826 : decode code 826 = .ok (.goto 16, 3) := by decide +kernel
theorem d_L_law_829 : decode code 829 = .ok (.aload_n 1, 1) := by decide +kernel
theorem d_L_law_830 : decode code 830 = .ok (.invokevirtual 146, 3) := by decide +kernel
theorem d_L_law_833 : decode code 833 = .ok (.pop, 1) := by decide +kernel
theorem d_L_law_834 : decode code 834 = .ok (.aload_n 2, 1) := by decide +kernel
theorem d_L_law_835 : decode code 835 = .ok (.invokevirtual 149, 3) := by decide +kernel
theorem d_L_law_838 : decode code 838 = .ok (.pop, 1) := by decide +kernel
theorem d_L_law_839 : decode code 839 = .ok (.goto 3, 3) := by decide +kernel
theorem d_L_law_842 : decode code 842 = .ok (.iinc 4 6, 3) := by decide +kernel
theorem d_L_law_845 : decode code 845 = .ok (.goto (-822), 3) := by decide +kernel
theorem d_L_law_848 : decode code 848 = .ok (.iconst 1, 1) := by decide +kernel
theorem d_L_law_849 : decode code 849 = .ok (.ireturn, 1) := by decide +kernel
end
section
-- ===== end of PART A; then your names; then what follows =====
/-! THE CLAIM OUT OF ONE WALK OF THE LAW'S BODY. Your part is whole_start (and what it stands on); all else here is the same for every law, but numbers. -/
def R_law : String := "TextKeeperLaw"
def lw_P (b : Addr) (xs : List Int32) (args : Array Value) (s : State) : Prop := args = #[.ref b] ∧ s.IntsAt b xs ∧ xs.length ≤ 3072 ∧ (Jvm.Cond.and given_1 narrow_1).before args s = true
def lw_Q (_ : Array Value) (s : State) (o : Outcome) (t : State) : Prop := o = .returned (some (.int 1)) ∧ Framed s o t [] 601024 7293033
def lw_Z (below : List Frame) (a : Array Value) (s : State) : State → Prop := fun t => ∃ o, t.status = .running ∧ Ended t below o ∧ lw_Q a s o t
/-- the law's own end, with 1 on the stack, nothing written that was there before, its room as the claim has it -/
theorem lw_ret {p : Program} {l : Launch} {e : Env} {s : State} {m : MethodId} {below : List Frame} {meth : Method} {c : Code} {b : Nat} (hx : p.tables.exec = Jvm.exec) (hb : c.code = code) (hr : meth.sig.returnType = ret) (hlocks : meth.locks = false) {pc : Nat} {H : Heap} {ls : Array Slot} (hdg : decode code pc = .ok (.ireturn, 1)) : W p l e room_1 s m #[Value.ref b] below meth c H [] 601024 7293033 (lw_Z below #[Value.ref b] s) (F0 m pc ls [.int 1]) := by
  intro T hT X
  obtain ⟨fs, hret, hrun, hended, hW, hframe⟩ := X.leave (v := some (.int 1)) (hlocks := hlocks) (fun h => by rw [hr] at h; cases h)
  have hmeth' : T.vm.method? m = some meth := X.method'
  refine ⟨T.setFrames fs, ?_, .returned (some (.int 1)), hrun, hended, rfl, ⟨_, rfl⟩, hW, hframe⟩
  jvm_step X.here [X.here.top, hx, hb, hdg, hmeth', hr, ret, narrow_b1]
  (try refine ⟨rfl, ?_⟩); (try refine ⟨rfl, ?_⟩)
  first | (intro acts; rw [hret _ acts rfl rfl rfl]) | rw [hret _ _ rfl rfl rfl]
  exact Steps.refl _
/-- what holds at the law's entry: the machine, the code, the tables' words (any of lw_tbl by 'hts w (by decide +kernel)'), the script of L ints xs at the cell b, what the Statement gives of the start (any of its parts by flat_of_before) -/
def lw_At (p : Program) (s : State) (m : MethodId) (meth : Method) (c : Code) (b L : Nat) (xs : Nat → Int32) : Prop :=
  p.tables.exec = Jvm.exec ∧ c.code = code ∧ meth.sig.returnType = ret ∧ c.maxLocals = 7 ∧ s.vm.findClass R_law = some m.cls ∧ (∀ w ∈ lw_tbl, w.before #[Value.ref b] s = true) ∧ va_X b L xs s s.heap ∧ b < s.heap.size ∧ meth.locks = false ∧ (Jvm.Cond.and given_1 narrow_1).before #[Value.ref b] s = true
theorem kpm (O K M : va_W) : ((O ++ K) ++ M).Perm (K ++ (O ++ M)) := by
  rw [← List.append_assoc]
  exact List.perm_append_comm.append_right M
theorem cd_start {σ : Sg} : (sStart σ).2.1 = 0 := by unfold sStart; split <;> rfl
theorem cd_isDown {σ : Sg} : (sIsDown σ).2.1 = 0 := rfl
theorem lg_self (x : Int64) : lg_cmp x x = 0 := by
  unfold lg_cmp
  rw [if_neg Int64.lt_irrefl, if_pos rfl]
theorem x_Li {L i : Nat} (hL : L ≤ 3072) (hi : i ≤ 3072) (h : ¬ Int32.ofNat L - 6 < nI i) : i + 6 ≤ L := by
  rcases Nat.lt_or_ge L 6 with q | q
  · have h1 : ∀ L : Fin 6, Int32.ofNat L.1 - 6 < 0 := by decide +kernel
    exact absurd (Int32.lt_of_lt_of_le (h1 ⟨L, q⟩) (nI_pos' (by omega))) h
  · obtain ⟨M, rfl⟩ : ∃ M, L = M + 6 := ⟨L - 6, by omega⟩
    have e : Int32.ofNat (M + 6) - 6 = nI M := by
      show nI (M + 6) - 6 = nI M
      rw [← nI_add]
      exact Int32.add_sub_cancel _ _
    rw [e] at h
    rcases Nat.lt_or_ge M i with z | z
    · exact absurd (nI_lt z (by omega)) h
    · omega
theorem ao_ty {C : String} {s : State} (h : va_AO C s) : ∃ cA, ArrOfT s cA (.object C) ∧ va_RA s cA (.object C) := by
  obtain ⟨comp, c, k, h1, -, h3, h4, h5⟩ := Cond.arrayOver_spec h
  exact ⟨c, fun N z => ⟨(fun k h => by cases h), k, h3, comp, h4⟩, k, comp, h3, h4, h1, h5⟩
theorem prS_TN {s : State} {H : Heap} {As : List Value} {D : va_G} {ws : va_W} {tys : List (ClassId × FieldType)} {A : Nat → Prop} (hP : va_P D vwCl ws H) (hK : va_K D vwCl tys s) (hD : va_D A ws) (hN : nw_ok s) (hTw : tw_ok s) (hnc : nc_ok s) (hh : ∀ a : Nat, a < s.heap.size → H[a]? = s.heap[a]?) : PreS s H (va_Pc As (fun U => pc_E D ws tys H.size U ∧ tw_ok U ∧ nc_ok U)) As :=
  ⟨fun a U g mk q => ⟨q.1, ⟨q.2.1.1, q.2.1.2.1, va_K.moved (u := U) (U := U.calling g mk a) (Vm.Alike.refl U.vm) q.2.1.2.2.1, q.2.1.2.2.2.1, nw_ok.same (s := U) (U := U.calling g mk a) rfl q.2.1.2.2.2.2⟩, tw_ok.move (s := U) (U := U.calling g mk a) (Vm.Alike.refl U.vm) (fun _ _ => rfl) q.2.2.1, nc_ok.moved (U := U.calling g mk a) (Vm.Alike.refl U.vm) q.2.2.2⟩, fun U hU hW => ⟨rfl, ⟨by rw [hU], by rw [hU]; exact hP, va_K.moved hW.alike hK, hD.weaken (fun _ _ _ _ => trivial), hN.warm hW⟩, tw_ok.move hW.alike (fun a ha => by rw [hU]; exact hh a ha) hTw, nc_ok.moved hW.alike hnc⟩⟩
end
section
set_option maxHeartbeats 4000000 in
set_option maxRecDepth 100000 in
theorem lw_c_0 {p : Program} {e : Env} {s : State} {m : MethodId} {below : List Frame} {meth : Method} {c : Code} (l : Launch) (hl9 : l.stackTraces = false) {b L : Nat} {xs : Nat → Int32} (hL : L ≤ 3072) (C0 : lw_At p s m meth c b L xs) {dC : Nat → ClassId} {dI : Nat → Nat → Nat} (qK qM qo : Nat) (cB cD cR cO cB2 cI cL cZ : ClassId) (fo : Nat → Int64) (x : KX) (ds : Nat → Option Dc) (y : MY) (σ : Sg) (i c0 s0 : Nat) (hi : i + 6 ≤ L) (hcc : c0 + 2 ≤ 601024) (hss : s0 + 264 ≤ 7293033) (hsg : sOk σ) (hk : kOk σ x ds) (hm : mOk σ y) (hN : nw_ok s) (hTw : tw_ok s) (hnc : nc_ok s) (hK : va_K (dC, dI) vwCl [(cO, .long), (cB, .byte), (cD, .object R_D), (cR, .object R_V), (cB2, .byte), (cI, .int), (cL, .short), (cZ, .boolean)] s) (H : Heap) (locs : List Loc) (hP : va_P (dC, dI) vwCl ((([(qo, .inl (cO, 1, .inr (.inl (fo))))] : va_W) ++ kW qK cB cD cR x ds) ++ mW qM cB2 cI cL cZ y) H) (hD : va_D (fun q : Nat => s.heap.size ≤ q) ((([(qo, .inl (cO, 1, .inr (.inl (fo))))] : va_W) ++ kW qK cB cD cR x ds) ++ mW qM cB2 cI cL cZ y)) (hS : va_S (fun q : Nat => s.heap.size ≤ q) s.heap H locs) (ls : Array Slot) (hl : lv_has ls 7 [(4, .int (nI i)), (3, .ref qo), (2, .ref qM), (1, .ref qK), (0, .ref b)]) (kk : ∀ (σ : Sg) (x : KX) (ds : Nat → Option Dc) (y : MY) (fo : Nat → Int64) (H : Heap) (locs : List Loc) (ls : Array Slot), sOk σ → kOk σ x ds → mOk σ y → va_P (dC, dI) vwCl ((([(qo, .inl (cO, 1, .inr (.inl (fo))))] : va_W) ++ kW qK cB cD cR x ds) ++ mW qM cB2 cI cL cZ y) H → va_D (fun q : Nat => s.heap.size ≤ q) ((([(qo, .inl (cO, 1, .inr (.inl (fo))))] : va_W) ++ kW qK cB cD cR x ds) ++ mW qM cB2 cI cL cZ y) → va_S (fun q : Nat => s.heap.size ≤ q) s.heap H locs → lv_has ls 7 [(4, .int (nI i)), (3, .ref qo), (2, .ref qM), (1, .ref qK), (0, .ref b)] → W p l e room_1 s m #[Value.ref b] below meth c H locs (c0 + 2) (s0 + 264) (lw_Z below #[Value.ref b] s) (F0 m 842 ls [])) : W p l e room_1 s m #[Value.ref b] below meth c H locs c0 s0 (lw_Z below #[Value.ref b] s) (F0 m 132 ls []) := by
  obtain ⟨hx, hb, hr, hml, hown, hts, hX, hbl, hlocks, hgv⟩ := id C0
  have hw0 : ∀ w ∈ w0, w.before #[Value.ref b] s = true := fun w h => hts w (w0_ok w h).1
  have hA : ∀ q : Nat, s.heap.size ≤ q → (fun q : Nat => s.heap.size ≤ q) q := fun _ h => h
  have hbA : ¬ (fun q : Nat => s.heap.size ≤ q) b := Nat.not_le.mpr hbl
  refine lv_aload_n hx hb d_L_law_132 rfl (lv_at hl 3 rfl) ?_
  refine lv_aload_n hx hb d_L_law_133 rfl (lv_at hl 4 rfl) ?_
  refine lv_iload hx hb d_L_law_134 (lv_at hl 0 rfl) ?_
  refine lv_iconst (v := 1) hx hb d_L_law_136 (by decide) ?_
  refine lv_iadd hx hb d_L_law_137 ?_
  refine lv_topi (fun x_1 ex_1 => ?_)
  obtain rfl : x_1 = nI (i + 1) := ex_1.trans (nI_add i 1)
  refine va_sld hx hb hX hbl hbA hS (x_inK (Nat.le_refl L) (by omega) (nI_pos (by omega)) (nI_ge (by omega) (by omega))) d_L_law_138 ?_
  refine lv_aload_n hx hb d_L_law_139 rfl (lv_at hl 4 rfl) ?_
  refine lv_iload hx hb d_L_law_140 (lv_at hl 0 rfl) ?_
  refine lv_iconst (v := 2) hx hb d_L_law_142 (by decide) ?_
  refine lv_iadd hx hb d_L_law_143 ?_
  refine lv_topi (fun x_2 ex_2 => ?_)
  obtain rfl : x_2 = nI (i + 2) := ex_2.trans (nI_add i 2)
  refine va_sld hx hb hX hbl hbA hS (x_inK (Nat.le_refl L) (by omega) (nI_pos (by omega)) (nI_ge (by omega) (by omega))) d_L_law_144 ?_
  refine lv_aload_n hx hb d_L_law_145 rfl (lv_at hl 4 rfl) ?_
  refine lv_iload hx hb d_L_law_146 (lv_at hl 0 rfl) ?_
  refine lv_iconst (v := 3) hx hb d_L_law_148 (by decide) ?_
  refine lv_iadd hx hb d_L_law_149 ?_
  refine lv_topi (fun x_3 ex_3 => ?_)
  obtain rfl : x_3 = nI (i + 3) := ex_3.trans (nI_add i 3)
  refine va_sld hx hb hX hbl hbA hS (x_inK (Nat.le_refl L) (by omega) (nI_pos (by omega)) (nI_ge (by omega) (by omega))) d_L_law_150 ?_
  refine lv_aload_n hx hb d_L_law_151 rfl (lv_at hl 4 rfl) ?_
  refine lv_iload hx hb d_L_law_152 (lv_at hl 0 rfl) ?_
  refine lv_iconst (v := 4) hx hb d_L_law_154 (by decide) ?_
  refine lv_iadd hx hb d_L_law_155 ?_
  refine lv_topi (fun x_4 ex_4 => ?_)
  obtain rfl : x_4 = nI (i + 4) := ex_4.trans (nI_add i 4)
  refine va_sld hx hb hX hbl hbA hS (x_inK (Nat.le_refl L) (by omega) (nI_pos (by omega)) (nI_ge (by omega) (by omega))) d_L_law_156 ?_
  refine lv_aload_n hx hb d_L_law_157 rfl (lv_at hl 4 rfl) ?_
  refine lv_iload hx hb d_L_law_158 (lv_at hl 0 rfl) ?_
  refine lv_iconst (v := 5) hx hb d_L_law_160 (by decide) ?_
  refine lv_iadd hx hb d_L_law_161 ?_
  refine lv_topi (fun x_5 ex_5 => ?_)
  obtain rfl : x_5 = nI (i + 5) := ex_5.trans (nI_add i 5)
  refine va_sld hx hb hX hbl hbA hS (x_inK (Nat.le_refl L) (by omega) (nI_pos (by omega)) (nI_ge (by omega) (by omega))) d_L_law_162 ?_
  refine lv_aload_n hx hb d_L_law_163 rfl (lv_at hl 1 rfl) ?_
  have hPc : va_P (dC, dI) vwCl (([(qo, .inl (cO, 1, .inr (.inl (fo))))] : va_W) ++ kW qK cB cD cR x ds) H := hP.left
  have hDc : va_D (fun q : Nat => s.heap.size ≤ q) (([(qo, .inl (cO, 1, .inr (.inl (fo))))] : va_W) ++ kW qK cB cD cR x ds) := hD.left
  have hKc : va_K (dC, dI) vwCl [(cO, .long), (cB, .byte), (cD, .object R_D), (cR, .object R_V)] s := hK.sub [0, 1, 2, 3] rfl
  have hFc : ∀ q : Nat, va_A (([(qo, .inl (cO, 1, .inr (.inl (fo))))] : va_W) ++ kW qK cB cD cR x ds) H.size q → (fun q : Nat => s.heap.size ≤ q) q := fr_free hD hS hA (List.Perm.refl _)
  have hS0 := hS
  refine va_calli (va_runSW (As := [.ref qK, .int (xs (Int32.toNatClampNeg (nI (i + 1)))), .int (xs (Int32.toNatClampNeg (nI (i + 2)))), .int (xs (Int32.toNatClampNeg (nI (i + 3)))), .int (xs (Int32.toNatClampNeg (nI (i + 4)))), .int (xs (Int32.toNatClampNeg (nI (i + 5)))), .ref qo]) (rest := []) ⟨hx, hb, hml, hown, hw0⟩ (w_feed l hl9 dC dI H.size qK qo cB cD cR cO fo x ds σ (xs (Int32.toNatClampNeg (nI (i + 1)))) (xs (Int32.toNatClampNeg (nI (i + 2)))) (xs (Int32.toNatClampNeg (nI (i + 3)))) (xs (Int32.toNatClampNeg (nI (i + 4)))) (xs (Int32.toNatClampNeg (nI (i + 5)))) hsg hk) (csw_of 7 hw0 585 586 587 588 rfl rfl rfl rfl rfl rfl (by decide +kernel) ⟨by decide +kernel, by decide +kernel⟩) (prS_T hPc hKc hDc hN hTw (fun a ha => hS.2.1 a ha (Nat.not_le.mpr ha))) rfl rfl hl.1 rfl (lv_room (Nat.le_of_ble_eq_true rfl)) d_L_law_164 ⟨hcc, hss⟩) hS (fun q _ h => hFc q h) hFc (fun r u t H1 locs ht hvm hw hB hz1 hk1 hS => ?_)
  obtain ⟨fo2, x2, ds2, ⟨hk2, hout⟩, hP1, hK1, hD1⟩ := hB
  rw [ht] at hP1
  obtain ⟨hP, hD⟩ := fr_wld (W2 := ((([(qo, .inl (cO, 1, .inr (.inl (fo2))))] : va_W) ++ kW qK cB cD cR x2 ds2) ++ mW qM cB2 cI cL cZ y)) (A := (fun q : Nat => s.heap.size ≤ q)) (fun q hq => hA q (Nat.le_trans hS0.1 hq)) hP hD (List.Perm.refl _) hk1 hP1 hD1 (kz (List.Perm.refl _))
  clear hPc hDc hKc hFc hP1 hD1 hK1 hk1 hS0
  generalize H1 = H at hP hS ⊢
  refine lv_istore (lv' := [(5, .int r), (4, .int (nI i)), (3, .ref qo), (2, .ref qM), (1, .ref qK), (0, .ref b)]) hx hb d_L_law_167 hl (by decide) rfl (fun ls hl => ?_)
  refine lv_aload_n hx hb d_L_law_169 rfl (lv_at hl 3 rfl) ?_
  refine lv_aload_n hx hb d_L_law_170 rfl (lv_at hl 5 rfl) ?_
  refine lv_iload hx hb d_L_law_171 (lv_at hl 1 rfl) ?_
  refine lv_iconst (v := 1) hx hb d_L_law_173 (by decide) ?_
  refine lv_iadd hx hb d_L_law_174 ?_
  refine lv_topi (fun x_6 ex_6 => ?_)
  obtain rfl : x_6 = nI (i + 1) := ex_6.trans (nI_add i 1)
  refine va_sld hx hb hX hbl hbA hS (x_inK (Nat.le_refl L) (by omega) (nI_pos (by omega)) (nI_ge (by omega) (by omega))) d_L_law_175 ?_
  refine lv_aload_n hx hb d_L_law_176 rfl (lv_at hl 5 rfl) ?_
  refine lv_iload hx hb d_L_law_177 (lv_at hl 1 rfl) ?_
  refine lv_iconst (v := 2) hx hb d_L_law_179 (by decide) ?_
  refine lv_iadd hx hb d_L_law_180 ?_
  refine lv_topi (fun x_7 ex_7 => ?_)
  obtain rfl : x_7 = nI (i + 2) := ex_7.trans (nI_add i 2)
  refine va_sld hx hb hX hbl hbA hS (x_inK (Nat.le_refl L) (by omega) (nI_pos (by omega)) (nI_ge (by omega) (by omega))) d_L_law_181 ?_
  refine lv_aload_n hx hb d_L_law_182 rfl (lv_at hl 5 rfl) ?_
  refine lv_iload hx hb d_L_law_183 (lv_at hl 1 rfl) ?_
  refine lv_iconst (v := 3) hx hb d_L_law_185 (by decide) ?_
  refine lv_iadd hx hb d_L_law_186 ?_
  refine lv_topi (fun x_8 ex_8 => ?_)
  obtain rfl : x_8 = nI (i + 3) := ex_8.trans (nI_add i 3)
  refine va_sld hx hb hX hbl hbA hS (x_inK (Nat.le_refl L) (by omega) (nI_pos (by omega)) (nI_ge (by omega) (by omega))) d_L_law_187 ?_
  refine lv_aload_n hx hb d_L_law_188 rfl (lv_at hl 5 rfl) ?_
  refine lv_iload hx hb d_L_law_189 (lv_at hl 1 rfl) ?_
  refine lv_iconst (v := 4) hx hb d_L_law_191 (by decide) ?_
  refine lv_iadd hx hb d_L_law_192 ?_
  refine lv_topi (fun x_9 ex_9 => ?_)
  obtain rfl : x_9 = nI (i + 4) := ex_9.trans (nI_add i 4)
  refine va_sld hx hb hX hbl hbA hS (x_inK (Nat.le_refl L) (by omega) (nI_pos (by omega)) (nI_ge (by omega) (by omega))) d_L_law_193 ?_
  refine lv_aload_n hx hb d_L_law_194 rfl (lv_at hl 5 rfl) ?_
  refine lv_iload hx hb d_L_law_195 (lv_at hl 1 rfl) ?_
  refine lv_iconst (v := 5) hx hb d_L_law_197 (by decide) ?_
  refine lv_iadd hx hb d_L_law_198 ?_
  refine lv_topi (fun x_10 ex_10 => ?_)
  obtain rfl : x_10 = nI (i + 5) := ex_10.trans (nI_add i 5)
  refine va_sld hx hb hX hbl hbA hS (x_inK (Nat.le_refl L) (by omega) (nI_pos (by omega)) (nI_ge (by omega) (by omega))) d_L_law_199 ?_
  have hPc : va_P (dC, dI) vwCl (mW qM cB2 cI cL cZ y) H := (hP.perm List.perm_append_comm).left
  have hDc : va_D (fun q : Nat => s.heap.size ≤ q) (mW qM cB2 cI cL cZ y) := (hD.perm List.perm_append_comm).left
  have hKc : va_K (dC, dI) vwCl (mT cB2 cI cL cZ) s := hK.sub [4, 5, 6, 7] rfl
  have hFc : ∀ q : Nat, va_A (mW qM cB2 cI cL cZ y) H.size q → (fun q : Nat => s.heap.size ≤ q) q := fr_free hD hS hA List.perm_append_comm
  have hS0 := hS
  refine va_calli (va_runV (As := [.int (xs (Int32.toNatClampNeg (nI (i + 1)))), .int (xs (Int32.toNatClampNeg (nI (i + 2)))), .int (xs (Int32.toNatClampNeg (nI (i + 3)))), .int (xs (Int32.toNatClampNeg (nI (i + 4)))), .int (xs (Int32.toNatClampNeg (nI (i + 5))))]) (rest := []) ⟨hx, hb, hml, hown, hw0⟩ (u_feed l dC dI H.size qM cB2 cI cL cZ y σ (xs (Int32.toNatClampNeg (nI (i + 1)))) (xs (Int32.toNatClampNeg (nI (i + 2)))) (xs (Int32.toNatClampNeg (nI (i + 3)))) (xs (Int32.toNatClampNeg (nI (i + 4)))) (xs (Int32.toNatClampNeg (nI (i + 5)))) hsg hm) (cwV 5 hw0 (gd_Vm wm_589 wm_590 wm_591 wm_243 wm_592) rfl rfl rfl (by decide +kernel) ⟨by decide +kernel, by decide +kernel⟩) (prV_E hPc hKc hDc hN (va_recv hKc hPc (ci := 7) (q0 := 0) rfl rfl)) rfl rfl hl.1 rfl (lv_room (Nat.le_of_ble_eq_true rfl)) d_L_law_200 ⟨hcc, hss⟩) hS (fun q _ h => hFc q h) hFc (fun r2 u t H1 locs ht hvm hw2 hB hz1 hk1 hS => ?_)
  obtain ⟨y2, ⟨hm2, hth⟩, hP1, hK1, hD1⟩ := hB
  rw [ht] at hP1
  obtain ⟨hP, hD⟩ := fr_wld (W2 := ((([(qo, .inl (cO, 1, .inr (.inl (fo2))))] : va_W) ++ kW qK cB cD cR x2 ds2) ++ mW qM cB2 cI cL cZ y2)) (A := (fun q : Nat => s.heap.size ≤ q)) (fun q hq => hA q (Nat.le_trans hS0.1 hq)) hP hD List.perm_append_comm hk1 hP1 hD1 (kz List.perm_append_comm)
  clear hPc hDc hKc hFc hP1 hD1 hK1 hk1 hS0
  generalize H1 = H at hP hS ⊢
  refine W.widen (k := c0 + 2) (n := s0 + 264) (Nat.le_refl _) (Nat.le_refl _) ?_
  refine lv_istore (lv' := [(6, .int r2), (5, .int r), (4, .int (nI i)), (3, .ref qo), (2, .ref qM), (1, .ref qK), (0, .ref b)]) hx hb d_L_law_203 hl (by decide) rfl (fun ls hl => ?_)
  refine lv_goto (tgt := 842) hx hb d_L_law_205 (by decide) ?_
  exact kk _ x2 ds2 y2 fo2 _ _ ls (sOk_of (sW_feed (sW_of hsg)) hk2) hk2 hm2 hP hD hS (lv_sub hl [2, 3, 4, 5, 6] rfl)
set_option maxHeartbeats 4000000 in
set_option maxRecDepth 100000 in
theorem lw_c_1 {p : Program} {e : Env} {s : State} {m : MethodId} {below : List Frame} {meth : Method} {c : Code} (l : Launch) (hl9 : l.stackTraces = false) {b L : Nat} {xs : Nat → Int32} (hL : L ≤ 3072) (C0 : lw_At p s m meth c b L xs) {dC : Nat → ClassId} {dI : Nat → Nat → Nat} (qK qM qo : Nat) (cB cD cR cO cB2 cI cL cZ : ClassId) (fo : Nat → Int64) (x : KX) (ds : Nat → Option Dc) (y : MY) (σ : Sg) (i c0 s0 : Nat) (hi : i + 6 ≤ L) (hcc : c0 + 2 ≤ 601024) (hss : s0 + 264 ≤ 7293033) (hsg : sOk σ) (hk : kOk σ x ds) (hm : mOk σ y) (hN : nw_ok s) (hTw : tw_ok s) (hnc : nc_ok s) (hK : va_K (dC, dI) vwCl [(cO, .long), (cB, .byte), (cD, .object R_D), (cR, .object R_V), (cB2, .byte), (cI, .int), (cL, .short), (cZ, .boolean)] s) (H : Heap) (locs : List Loc) (hP : va_P (dC, dI) vwCl ((([(qo, .inl (cO, 1, .inr (.inl (fo))))] : va_W) ++ kW qK cB cD cR x ds) ++ mW qM cB2 cI cL cZ y) H) (hD : va_D (fun q : Nat => s.heap.size ≤ q) ((([(qo, .inl (cO, 1, .inr (.inl (fo))))] : va_W) ++ kW qK cB cD cR x ds) ++ mW qM cB2 cI cL cZ y)) (hS : va_S (fun q : Nat => s.heap.size ≤ q) s.heap H locs) (ls : Array Slot) (hl : lv_has ls 7 [(4, .int (nI i)), (3, .ref qo), (2, .ref qM), (1, .ref qK), (0, .ref b)]) (kk : ∀ (σ : Sg) (x : KX) (ds : Nat → Option Dc) (y : MY) (fo : Nat → Int64) (H : Heap) (locs : List Loc) (ls : Array Slot), sOk σ → kOk σ x ds → mOk σ y → va_P (dC, dI) vwCl ((([(qo, .inl (cO, 1, .inr (.inl (fo))))] : va_W) ++ kW qK cB cD cR x ds) ++ mW qM cB2 cI cL cZ y) H → va_D (fun q : Nat => s.heap.size ≤ q) ((([(qo, .inl (cO, 1, .inr (.inl (fo))))] : va_W) ++ kW qK cB cD cR x ds) ++ mW qM cB2 cI cL cZ y) → va_S (fun q : Nat => s.heap.size ≤ q) s.heap H locs → lv_has ls 7 [(4, .int (nI i)), (3, .ref qo), (2, .ref qM), (1, .ref qK), (0, .ref b)] → W p l e room_1 s m #[Value.ref b] below meth c H locs (c0 + 2) (s0 + 264) (lw_Z below #[Value.ref b] s) (F0 m 842 ls [])) : W p l e room_1 s m #[Value.ref b] below meth c H locs c0 s0 (lw_Z below #[Value.ref b] s) (F0 m 208 ls []) := by
  obtain ⟨hx, hb, hr, hml, hown, hts, hX, hbl, hlocks, hgv⟩ := id C0
  have hw0 : ∀ w ∈ w0, w.before #[Value.ref b] s = true := fun w h => hts w (w0_ok w h).1
  have hA : ∀ q : Nat, s.heap.size ≤ q → (fun q : Nat => s.heap.size ≤ q) q := fun _ h => h
  have hbA : ¬ (fun q : Nat => s.heap.size ≤ q) b := Nat.not_le.mpr hbl
  refine lv_aload_n hx hb d_L_law_208 rfl (lv_at hl 3 rfl) ?_
  refine lv_aload_n hx hb d_L_law_209 rfl (lv_at hl 4 rfl) ?_
  refine lv_iload hx hb d_L_law_210 (lv_at hl 0 rfl) ?_
  refine lv_iconst (v := 1) hx hb d_L_law_212 (by decide) ?_
  refine lv_iadd hx hb d_L_law_213 ?_
  refine lv_topi (fun x_1 ex_1 => ?_)
  obtain rfl : x_1 = nI (i + 1) := ex_1.trans (nI_add i 1)
  refine va_sld hx hb hX hbl hbA hS (x_inK (Nat.le_refl L) (by omega) (nI_pos (by omega)) (nI_ge (by omega) (by omega))) d_L_law_214 ?_
  refine lv_aload_n hx hb d_L_law_215 rfl (lv_at hl 1 rfl) ?_
  have hPc : va_P (dC, dI) vwCl (([(qo, .inl (cO, 1, .inr (.inl (fo))))] : va_W) ++ kW qK cB cD cR x ds) H := hP.left
  have hDc : va_D (fun q : Nat => s.heap.size ≤ q) (([(qo, .inl (cO, 1, .inr (.inl (fo))))] : va_W) ++ kW qK cB cD cR x ds) := hD.left
  have hKc : va_K (dC, dI) vwCl [(cO, .long), (cB, .byte), (cD, .object R_D), (cR, .object R_V)] s := hK.sub [0, 1, 2, 3] rfl
  have hFc : ∀ q : Nat, va_A (([(qo, .inl (cO, 1, .inr (.inl (fo))))] : va_W) ++ kW qK cB cD cR x ds) H.size q → (fun q : Nat => s.heap.size ≤ q) q := fr_free hD hS hA (List.Perm.refl _)
  have hS0 := hS
  refine va_calli (va_runSW (As := [.ref qK, .int (xs (Int32.toNatClampNeg (nI (i + 1)))), .ref qo]) (rest := []) ⟨hx, hb, hml, hown, hw0⟩ (w_end l hl9 dC dI H.size qK qo cB cD cR cO fo x ds σ (xs (Int32.toNatClampNeg (nI (i + 1)))) hsg hk) (csw_of 3 hw0 593 594 595 588 rfl rfl rfl rfl rfl rfl (by decide +kernel) ⟨by decide +kernel, by decide +kernel⟩) (prS_T hPc hKc hDc hN hTw (fun a ha => hS.2.1 a ha (Nat.not_le.mpr ha))) rfl rfl hl.1 rfl (lv_room (Nat.le_of_ble_eq_true rfl)) d_L_law_216 ⟨hcc, hss⟩) hS (fun q _ h => hFc q h) hFc (fun r u t H1 locs ht hvm hw hB hz1 hk1 hS => ?_)
  obtain ⟨fo2, x2, ds2, ⟨hk2, hout⟩, hP1, hK1, hD1⟩ := hB
  rw [ht] at hP1
  obtain ⟨hP, hD⟩ := fr_wld (W2 := ((([(qo, .inl (cO, 1, .inr (.inl (fo2))))] : va_W) ++ kW qK cB cD cR x2 ds2) ++ mW qM cB2 cI cL cZ y)) (A := (fun q : Nat => s.heap.size ≤ q)) (fun q hq => hA q (Nat.le_trans hS0.1 hq)) hP hD (List.Perm.refl _) hk1 hP1 hD1 (kz (List.Perm.refl _))
  clear hPc hDc hKc hFc hP1 hD1 hK1 hk1 hS0
  generalize H1 = H at hP hS ⊢
  refine lv_istore (lv' := [(5, .int r), (4, .int (nI i)), (3, .ref qo), (2, .ref qM), (1, .ref qK), (0, .ref b)]) hx hb d_L_law_219 hl (by decide) rfl (fun ls hl => ?_)
  refine lv_aload_n hx hb d_L_law_221 rfl (lv_at hl 3 rfl) ?_
  refine lv_aload_n hx hb d_L_law_222 rfl (lv_at hl 5 rfl) ?_
  refine lv_iload hx hb d_L_law_223 (lv_at hl 1 rfl) ?_
  refine lv_iconst (v := 1) hx hb d_L_law_225 (by decide) ?_
  refine lv_iadd hx hb d_L_law_226 ?_
  refine lv_topi (fun x_2 ex_2 => ?_)
  obtain rfl : x_2 = nI (i + 1) := ex_2.trans (nI_add i 1)
  refine va_sld hx hb hX hbl hbA hS (x_inK (Nat.le_refl L) (by omega) (nI_pos (by omega)) (nI_ge (by omega) (by omega))) d_L_law_227 ?_
  have hPc : va_P (dC, dI) vwCl (mW qM cB2 cI cL cZ y) H := (hP.perm List.perm_append_comm).left
  have hDc : va_D (fun q : Nat => s.heap.size ≤ q) (mW qM cB2 cI cL cZ y) := (hD.perm List.perm_append_comm).left
  have hKc : va_K (dC, dI) vwCl (mT cB2 cI cL cZ) s := hK.sub [4, 5, 6, 7] rfl
  have hFc : ∀ q : Nat, va_A (mW qM cB2 cI cL cZ y) H.size q → (fun q : Nat => s.heap.size ≤ q) q := fr_free hD hS hA List.perm_append_comm
  have hS0 := hS
  refine va_calli (va_runV (As := [.int (xs (Int32.toNatClampNeg (nI (i + 1))))]) (rest := []) ⟨hx, hb, hml, hown, hw0⟩ (u_end l dC dI H.size qM cB2 cI cL cZ y σ (xs (Int32.toNatClampNeg (nI (i + 1)))) hsg hm) (cwV 1 hw0 (gd_Vm wm_596 wm_597 wm_598 wm_243 wm_599) rfl rfl rfl (by decide +kernel) ⟨by decide +kernel, by decide +kernel⟩) (prV_E hPc hKc hDc hN (va_recv hKc hPc (ci := 7) (q0 := 0) rfl rfl)) rfl rfl hl.1 rfl (lv_room (Nat.le_of_ble_eq_true rfl)) d_L_law_228 ⟨hcc, hss⟩) hS (fun q _ h => hFc q h) hFc (fun r2 u t H1 locs ht hvm hw2 hB hz1 hk1 hS => ?_)
  obtain ⟨y2, ⟨hm2, hth⟩, hP1, hK1, hD1⟩ := hB
  rw [ht] at hP1
  obtain ⟨hP, hD⟩ := fr_wld (W2 := ((([(qo, .inl (cO, 1, .inr (.inl (fo2))))] : va_W) ++ kW qK cB cD cR x2 ds2) ++ mW qM cB2 cI cL cZ y2)) (A := (fun q : Nat => s.heap.size ≤ q)) (fun q hq => hA q (Nat.le_trans hS0.1 hq)) hP hD List.perm_append_comm hk1 hP1 hD1 (kz List.perm_append_comm)
  clear hPc hDc hKc hFc hP1 hD1 hK1 hk1 hS0
  generalize H1 = H at hP hS ⊢
  refine W.widen (k := c0 + 2) (n := s0 + 264) (Nat.le_refl _) (Nat.le_refl _) ?_
  refine lv_istore (lv' := [(6, .int r2), (5, .int r), (4, .int (nI i)), (3, .ref qo), (2, .ref qM), (1, .ref qK), (0, .ref b)]) hx hb d_L_law_231 hl (by decide) rfl (fun ls hl => ?_)
  refine lv_goto (tgt := 842) hx hb d_L_law_233 (by decide) ?_
  exact kk _ x2 ds2 y2 fo2 _ _ ls (sOk_of (sW_end (sW_of hsg)) hk2) hk2 hm2 hP hD hS (lv_sub hl [2, 3, 4, 5, 6] rfl)
set_option maxHeartbeats 4000000 in
set_option maxRecDepth 100000 in
theorem lw_c_2 {p : Program} {e : Env} {s : State} {m : MethodId} {below : List Frame} {meth : Method} {c : Code} (l : Launch) (hl9 : l.stackTraces = false) {b L : Nat} {xs : Nat → Int32} (hL : L ≤ 3072) (C0 : lw_At p s m meth c b L xs) {dC : Nat → ClassId} {dI : Nat → Nat → Nat} (qK qM qo : Nat) (cB cD cR cO cB2 cI cL cZ : ClassId) (fo : Nat → Int64) (x : KX) (ds : Nat → Option Dc) (y : MY) (σ : Sg) (i c0 s0 : Nat) (hi : i + 6 ≤ L) (hcc : c0 + 2 ≤ 601024) (hss : s0 + 264 ≤ 7293033) (hsg : sOk σ) (hk : kOk σ x ds) (hm : mOk σ y) (hN : nw_ok s) (hTw : tw_ok s) (hnc : nc_ok s) (hK : va_K (dC, dI) vwCl [(cO, .long), (cB, .byte), (cD, .object R_D), (cR, .object R_V), (cB2, .byte), (cI, .int), (cL, .short), (cZ, .boolean)] s) (H : Heap) (locs : List Loc) (hP : va_P (dC, dI) vwCl ((([(qo, .inl (cO, 1, .inr (.inl (fo))))] : va_W) ++ kW qK cB cD cR x ds) ++ mW qM cB2 cI cL cZ y) H) (hD : va_D (fun q : Nat => s.heap.size ≤ q) ((([(qo, .inl (cO, 1, .inr (.inl (fo))))] : va_W) ++ kW qK cB cD cR x ds) ++ mW qM cB2 cI cL cZ y)) (hS : va_S (fun q : Nat => s.heap.size ≤ q) s.heap H locs) (ls : Array Slot) (hl : lv_has ls 7 [(4, .int (nI i)), (3, .ref qo), (2, .ref qM), (1, .ref qK), (0, .ref b)]) (kk : ∀ (σ : Sg) (x : KX) (ds : Nat → Option Dc) (y : MY) (fo : Nat → Int64) (H : Heap) (locs : List Loc) (ls : Array Slot), sOk σ → kOk σ x ds → mOk σ y → va_P (dC, dI) vwCl ((([(qo, .inl (cO, 1, .inr (.inl (fo))))] : va_W) ++ kW qK cB cD cR x ds) ++ mW qM cB2 cI cL cZ y) H → va_D (fun q : Nat => s.heap.size ≤ q) ((([(qo, .inl (cO, 1, .inr (.inl (fo))))] : va_W) ++ kW qK cB cD cR x ds) ++ mW qM cB2 cI cL cZ y) → va_S (fun q : Nat => s.heap.size ≤ q) s.heap H locs → lv_has ls 7 [(4, .int (nI i)), (3, .ref qo), (2, .ref qM), (1, .ref qK), (0, .ref b)] → W p l e room_1 s m #[Value.ref b] below meth c H locs (c0 + 2) (s0 + 264) (lw_Z below #[Value.ref b] s) (F0 m 842 ls [])) : W p l e room_1 s m #[Value.ref b] below meth c H locs c0 s0 (lw_Z below #[Value.ref b] s) (F0 m 236 ls []) := by
  obtain ⟨hx, hb, hr, hml, hown, hts, hX, hbl, hlocks, hgv⟩ := id C0
  have hw0 : ∀ w ∈ w0, w.before #[Value.ref b] s = true := fun w h => hts w (w0_ok w h).1
  have hA : ∀ q : Nat, s.heap.size ≤ q → (fun q : Nat => s.heap.size ≤ q) q := fun _ h => h
  have hbA : ¬ (fun q : Nat => s.heap.size ≤ q) b := Nat.not_le.mpr hbl
  refine lv_aload_n hx hb d_L_law_236 rfl (lv_at hl 3 rfl) ?_
  refine lv_aload_n hx hb d_L_law_237 rfl (lv_at hl 1 rfl) ?_
  have hPc : va_P (dC, dI) vwCl (([(qo, .inl (cO, 1, .inr (.inl (fo))))] : va_W) ++ kW qK cB cD cR x ds) H := hP.left
  have hDc : va_D (fun q : Nat => s.heap.size ≤ q) (([(qo, .inl (cO, 1, .inr (.inl (fo))))] : va_W) ++ kW qK cB cD cR x ds) := hD.left
  have hKc : va_K (dC, dI) vwCl [(cO, .long), (cB, .byte), (cD, .object R_D), (cR, .object R_V)] s := hK.sub [0, 1, 2, 3] rfl
  have hFc : ∀ q : Nat, va_A (([(qo, .inl (cO, 1, .inr (.inl (fo))))] : va_W) ++ kW qK cB cD cR x ds) H.size q → (fun q : Nat => s.heap.size ≤ q) q := fr_free hD hS hA (List.Perm.refl _)
  have hS0 := hS
  refine va_calli (va_runSW (As := [.ref qK, .ref qo]) (rest := []) ⟨hx, hb, hml, hown, hw0⟩ (w_make l hl9 dC dI H.size qK qo cB cD cR cO fo x ds σ hsg hk) (csw_of 2 hw0 600 601 602 588 rfl rfl rfl rfl rfl rfl (by decide +kernel) ⟨by decide +kernel, by decide +kernel⟩) (prS_T hPc hKc hDc hN hTw (fun a ha => hS.2.1 a ha (Nat.not_le.mpr ha))) rfl rfl hl.1 rfl (lv_room (Nat.le_of_ble_eq_true rfl)) d_L_law_238 ⟨hcc, hss⟩) hS (fun q _ h => hFc q h) hFc (fun r u t H1 locs ht hvm hw hB hz1 hk1 hS => ?_)
  obtain ⟨fo2, x2, ds2, ⟨hk2, hout⟩, hP1, hK1, hD1⟩ := hB
  rw [ht] at hP1
  obtain ⟨hP, hD⟩ := fr_wld (W2 := ((([(qo, .inl (cO, 1, .inr (.inl (fo2))))] : va_W) ++ kW qK cB cD cR x2 ds2) ++ mW qM cB2 cI cL cZ y)) (A := (fun q : Nat => s.heap.size ≤ q)) (fun q hq => hA q (Nat.le_trans hS0.1 hq)) hP hD (List.Perm.refl _) hk1 hP1 hD1 (kz (List.Perm.refl _))
  clear hPc hDc hKc hFc hP1 hD1 hK1 hk1 hS0
  generalize H1 = H at hP hS ⊢
  refine lv_istore (lv' := [(5, .int r), (4, .int (nI i)), (3, .ref qo), (2, .ref qM), (1, .ref qK), (0, .ref b)]) hx hb d_L_law_241 hl (by decide) rfl (fun ls hl => ?_)
  refine lv_aload_n hx hb d_L_law_243 rfl (lv_at hl 3 rfl) ?_
  have hPc : va_P (dC, dI) vwCl (mW qM cB2 cI cL cZ y) H := (hP.perm List.perm_append_comm).left
  have hDc : va_D (fun q : Nat => s.heap.size ≤ q) (mW qM cB2 cI cL cZ y) := (hD.perm List.perm_append_comm).left
  have hKc : va_K (dC, dI) vwCl (mT cB2 cI cL cZ) s := hK.sub [4, 5, 6, 7] rfl
  have hFc : ∀ q : Nat, va_A (mW qM cB2 cI cL cZ y) H.size q → (fun q : Nat => s.heap.size ≤ q) q := fr_free hD hS hA List.perm_append_comm
  have hS0 := hS
  refine va_calli (va_runV (As := []) (rest := []) ⟨hx, hb, hml, hown, hw0⟩ (u_make l dC dI H.size qM cB2 cI cL cZ y σ hsg hm) (cwV 0 hw0 (gd_Vm wm_603 wm_604 wm_605 wm_243 wm_606) rfl rfl rfl (by decide +kernel) ⟨by decide +kernel, by decide +kernel⟩) (prV_E hPc hKc hDc hN (va_recv hKc hPc (ci := 7) (q0 := 0) rfl rfl)) rfl rfl hl.1 rfl (lv_room (Nat.le_of_ble_eq_true rfl)) d_L_law_244 ⟨hcc, hss⟩) hS (fun q _ h => hFc q h) hFc (fun r2 u t H1 locs ht hvm hw2 hB hz1 hk1 hS => ?_)
  obtain ⟨y2, ⟨hm2, hth⟩, hP1, hK1, hD1⟩ := hB
  rw [ht] at hP1
  obtain ⟨hP, hD⟩ := fr_wld (W2 := ((([(qo, .inl (cO, 1, .inr (.inl (fo2))))] : va_W) ++ kW qK cB cD cR x2 ds2) ++ mW qM cB2 cI cL cZ y2)) (A := (fun q : Nat => s.heap.size ≤ q)) (fun q hq => hA q (Nat.le_trans hS0.1 hq)) hP hD List.perm_append_comm hk1 hP1 hD1 (kz List.perm_append_comm)
  clear hPc hDc hKc hFc hP1 hD1 hK1 hk1 hS0
  generalize H1 = H at hP hS ⊢
  refine W.widen (k := c0 + 2) (n := s0 + 264) (Nat.le_refl _) (Nat.le_refl _) ?_
  refine lv_istore (lv' := [(6, .int r2), (5, .int r), (4, .int (nI i)), (3, .ref qo), (2, .ref qM), (1, .ref qK), (0, .ref b)]) hx hb d_L_law_247 hl (by decide) rfl (fun ls hl => ?_)
  refine lv_goto (tgt := 842) hx hb d_L_law_249 (by decide) ?_
  exact kk _ x2 ds2 y2 fo2 _ _ ls (sOk_of (sW_make (sW_of hsg)) hk2) hk2 hm2 hP hD hS (lv_sub hl [2, 3, 4, 5, 6] rfl)
set_option maxHeartbeats 4000000 in
set_option maxRecDepth 100000 in
theorem lw_c_3 {p : Program} {e : Env} {s : State} {m : MethodId} {below : List Frame} {meth : Method} {c : Code} (l : Launch) (hl9 : l.stackTraces = false) {b L : Nat} {xs : Nat → Int32} (hL : L ≤ 3072) (C0 : lw_At p s m meth c b L xs) {dC : Nat → ClassId} {dI : Nat → Nat → Nat} (qK qM qo : Nat) (cB cD cR cO cB2 cI cL cZ : ClassId) (fo : Nat → Int64) (x : KX) (ds : Nat → Option Dc) (y : MY) (σ : Sg) (i c0 s0 : Nat) (hi : i + 6 ≤ L) (hcc : c0 + 2 ≤ 601024) (hss : s0 + 264 ≤ 7293033) (hsg : sOk σ) (hk : kOk σ x ds) (hm : mOk σ y) (hN : nw_ok s) (hTw : tw_ok s) (hnc : nc_ok s) (hK : va_K (dC, dI) vwCl [(cO, .long), (cB, .byte), (cD, .object R_D), (cR, .object R_V), (cB2, .byte), (cI, .int), (cL, .short), (cZ, .boolean)] s) (H : Heap) (locs : List Loc) (hP : va_P (dC, dI) vwCl ((([(qo, .inl (cO, 1, .inr (.inl (fo))))] : va_W) ++ kW qK cB cD cR x ds) ++ mW qM cB2 cI cL cZ y) H) (hD : va_D (fun q : Nat => s.heap.size ≤ q) ((([(qo, .inl (cO, 1, .inr (.inl (fo))))] : va_W) ++ kW qK cB cD cR x ds) ++ mW qM cB2 cI cL cZ y)) (hS : va_S (fun q : Nat => s.heap.size ≤ q) s.heap H locs) (ls : Array Slot) (hl : lv_has ls 7 [(4, .int (nI i)), (3, .ref qo), (2, .ref qM), (1, .ref qK), (0, .ref b)]) (kk : ∀ (σ : Sg) (x : KX) (ds : Nat → Option Dc) (y : MY) (fo : Nat → Int64) (H : Heap) (locs : List Loc) (ls : Array Slot), sOk σ → kOk σ x ds → mOk σ y → va_P (dC, dI) vwCl ((([(qo, .inl (cO, 1, .inr (.inl (fo))))] : va_W) ++ kW qK cB cD cR x ds) ++ mW qM cB2 cI cL cZ y) H → va_D (fun q : Nat => s.heap.size ≤ q) ((([(qo, .inl (cO, 1, .inr (.inl (fo))))] : va_W) ++ kW qK cB cD cR x ds) ++ mW qM cB2 cI cL cZ y) → va_S (fun q : Nat => s.heap.size ≤ q) s.heap H locs → lv_has ls 7 [(4, .int (nI i)), (3, .ref qo), (2, .ref qM), (1, .ref qK), (0, .ref b)] → W p l e room_1 s m #[Value.ref b] below meth c H locs (c0 + 2) (s0 + 264) (lw_Z below #[Value.ref b] s) (F0 m 842 ls [])) : W p l e room_1 s m #[Value.ref b] below meth c H locs c0 s0 (lw_Z below #[Value.ref b] s) (F0 m 252 ls []) := by
  obtain ⟨hx, hb, hr, hml, hown, hts, hX, hbl, hlocks, hgv⟩ := id C0
  have hw0 : ∀ w ∈ w0, w.before #[Value.ref b] s = true := fun w h => hts w (w0_ok w h).1
  have hA : ∀ q : Nat, s.heap.size ≤ q → (fun q : Nat => s.heap.size ≤ q) q := fun _ h => h
  have hbA : ¬ (fun q : Nat => s.heap.size ≤ q) b := Nat.not_le.mpr hbl
  refine lv_aload_n hx hb d_L_law_252 rfl (lv_at hl 3 rfl) ?_
  refine lv_aload_n hx hb d_L_law_253 rfl (lv_at hl 4 rfl) ?_
  refine lv_iload hx hb d_L_law_254 (lv_at hl 0 rfl) ?_
  refine lv_iconst (v := 1) hx hb d_L_law_256 (by decide) ?_
  refine lv_iadd hx hb d_L_law_257 ?_
  refine lv_topi (fun x_1 ex_1 => ?_)
  obtain rfl : x_1 = nI (i + 1) := ex_1.trans (nI_add i 1)
  refine va_sld hx hb hX hbl hbA hS (x_inK (Nat.le_refl L) (by omega) (nI_pos (by omega)) (nI_ge (by omega) (by omega))) d_L_law_258 ?_
  refine lv_aload_n hx hb d_L_law_259 rfl (lv_at hl 4 rfl) ?_
  refine lv_iload hx hb d_L_law_260 (lv_at hl 0 rfl) ?_
  refine lv_iconst (v := 2) hx hb d_L_law_262 (by decide) ?_
  refine lv_iadd hx hb d_L_law_263 ?_
  refine lv_topi (fun x_2 ex_2 => ?_)
  obtain rfl : x_2 = nI (i + 2) := ex_2.trans (nI_add i 2)
  refine va_sld hx hb hX hbl hbA hS (x_inK (Nat.le_refl L) (by omega) (nI_pos (by omega)) (nI_ge (by omega) (by omega))) d_L_law_264 ?_
  refine lv_aload_n hx hb d_L_law_265 rfl (lv_at hl 1 rfl) ?_
  have hPc : va_P (dC, dI) vwCl (([(qo, .inl (cO, 1, .inr (.inl (fo))))] : va_W) ++ kW qK cB cD cR x ds) H := hP.left
  have hDc : va_D (fun q : Nat => s.heap.size ≤ q) (([(qo, .inl (cO, 1, .inr (.inl (fo))))] : va_W) ++ kW qK cB cD cR x ds) := hD.left
  have hKc : va_K (dC, dI) vwCl [(cO, .long), (cB, .byte), (cD, .object R_D), (cR, .object R_V)] s := hK.sub [0, 1, 2, 3] rfl
  have hFc : ∀ q : Nat, va_A (([(qo, .inl (cO, 1, .inr (.inl (fo))))] : va_W) ++ kW qK cB cD cR x ds) H.size q → (fun q : Nat => s.heap.size ≤ q) q := fr_free hD hS hA (List.Perm.refl _)
  have hS0 := hS
  refine va_calli (va_runSW (As := [.ref qK, .int (xs (Int32.toNatClampNeg (nI (i + 1)))), .int (xs (Int32.toNatClampNeg (nI (i + 2)))), .ref qo]) (rest := []) ⟨hx, hb, hml, hown, hw0⟩ (w_commit l hl9 dC dI H.size qK qo cB cD cR cO fo x ds σ (xs (Int32.toNatClampNeg (nI (i + 1)))) (xs (Int32.toNatClampNeg (nI (i + 2)))) hsg hk) (csw_of 4 hw0 607 608 609 588 rfl rfl rfl rfl rfl rfl (by decide +kernel) ⟨by decide +kernel, by decide +kernel⟩) (prS_T hPc hKc hDc hN hTw (fun a ha => hS.2.1 a ha (Nat.not_le.mpr ha))) rfl rfl hl.1 rfl (lv_room (Nat.le_of_ble_eq_true rfl)) d_L_law_266 ⟨hcc, hss⟩) hS (fun q _ h => hFc q h) hFc (fun r u t H1 locs ht hvm hw hB hz1 hk1 hS => ?_)
  obtain ⟨fo2, x2, ds2, ⟨hk2, hout⟩, hP1, hK1, hD1⟩ := hB
  rw [ht] at hP1
  obtain ⟨hP, hD⟩ := fr_wld (W2 := ((([(qo, .inl (cO, 1, .inr (.inl (fo2))))] : va_W) ++ kW qK cB cD cR x2 ds2) ++ mW qM cB2 cI cL cZ y)) (A := (fun q : Nat => s.heap.size ≤ q)) (fun q hq => hA q (Nat.le_trans hS0.1 hq)) hP hD (List.Perm.refl _) hk1 hP1 hD1 (kz (List.Perm.refl _))
  clear hPc hDc hKc hFc hP1 hD1 hK1 hk1 hS0
  generalize H1 = H at hP hS ⊢
  refine lv_istore (lv' := [(5, .int r), (4, .int (nI i)), (3, .ref qo), (2, .ref qM), (1, .ref qK), (0, .ref b)]) hx hb d_L_law_269 hl (by decide) rfl (fun ls hl => ?_)
  refine lv_aload_n hx hb d_L_law_271 rfl (lv_at hl 3 rfl) ?_
  refine lv_aload_n hx hb d_L_law_272 rfl (lv_at hl 5 rfl) ?_
  refine lv_iload hx hb d_L_law_273 (lv_at hl 1 rfl) ?_
  refine lv_iconst (v := 1) hx hb d_L_law_275 (by decide) ?_
  refine lv_iadd hx hb d_L_law_276 ?_
  refine lv_topi (fun x_3 ex_3 => ?_)
  obtain rfl : x_3 = nI (i + 1) := ex_3.trans (nI_add i 1)
  refine va_sld hx hb hX hbl hbA hS (x_inK (Nat.le_refl L) (by omega) (nI_pos (by omega)) (nI_ge (by omega) (by omega))) d_L_law_277 ?_
  refine lv_aload_n hx hb d_L_law_278 rfl (lv_at hl 5 rfl) ?_
  refine lv_iload hx hb d_L_law_279 (lv_at hl 1 rfl) ?_
  refine lv_iconst (v := 2) hx hb d_L_law_281 (by decide) ?_
  refine lv_iadd hx hb d_L_law_282 ?_
  refine lv_topi (fun x_4 ex_4 => ?_)
  obtain rfl : x_4 = nI (i + 2) := ex_4.trans (nI_add i 2)
  refine va_sld hx hb hX hbl hbA hS (x_inK (Nat.le_refl L) (by omega) (nI_pos (by omega)) (nI_ge (by omega) (by omega))) d_L_law_283 ?_
  have hPc : va_P (dC, dI) vwCl (mW qM cB2 cI cL cZ y) H := (hP.perm List.perm_append_comm).left
  have hDc : va_D (fun q : Nat => s.heap.size ≤ q) (mW qM cB2 cI cL cZ y) := (hD.perm List.perm_append_comm).left
  have hKc : va_K (dC, dI) vwCl (mT cB2 cI cL cZ) s := hK.sub [4, 5, 6, 7] rfl
  have hFc : ∀ q : Nat, va_A (mW qM cB2 cI cL cZ y) H.size q → (fun q : Nat => s.heap.size ≤ q) q := fr_free hD hS hA List.perm_append_comm
  have hS0 := hS
  refine va_calli (va_runV (As := [.int (xs (Int32.toNatClampNeg (nI (i + 1)))), .int (xs (Int32.toNatClampNeg (nI (i + 2))))]) (rest := []) ⟨hx, hb, hml, hown, hw0⟩ (u_commit l dC dI H.size qM cB2 cI cL cZ y σ (xs (Int32.toNatClampNeg (nI (i + 1)))) (xs (Int32.toNatClampNeg (nI (i + 2)))) hsg hm) (cwV 2 hw0 (gd_Vm wm_610 wm_611 wm_612 wm_243 wm_613) rfl rfl rfl (by decide +kernel) ⟨by decide +kernel, by decide +kernel⟩) (prV_E hPc hKc hDc hN (va_recv hKc hPc (ci := 7) (q0 := 0) rfl rfl)) rfl rfl hl.1 rfl (lv_room (Nat.le_of_ble_eq_true rfl)) d_L_law_284 ⟨hcc, hss⟩) hS (fun q _ h => hFc q h) hFc (fun r2 u t H1 locs ht hvm hw2 hB hz1 hk1 hS => ?_)
  obtain ⟨y2, ⟨hm2, hth⟩, hP1, hK1, hD1⟩ := hB
  rw [ht] at hP1
  obtain ⟨hP, hD⟩ := fr_wld (W2 := ((([(qo, .inl (cO, 1, .inr (.inl (fo2))))] : va_W) ++ kW qK cB cD cR x2 ds2) ++ mW qM cB2 cI cL cZ y2)) (A := (fun q : Nat => s.heap.size ≤ q)) (fun q hq => hA q (Nat.le_trans hS0.1 hq)) hP hD List.perm_append_comm hk1 hP1 hD1 (kz List.perm_append_comm)
  clear hPc hDc hKc hFc hP1 hD1 hK1 hk1 hS0
  generalize H1 = H at hP hS ⊢
  refine W.widen (k := c0 + 2) (n := s0 + 264) (Nat.le_refl _) (Nat.le_refl _) ?_
  refine lv_istore (lv' := [(6, .int r2), (5, .int r), (4, .int (nI i)), (3, .ref qo), (2, .ref qM), (1, .ref qK), (0, .ref b)]) hx hb d_L_law_287 hl (by decide) rfl (fun ls hl => ?_)
  refine lv_aload_n hx hb d_L_law_289 rfl (lv_at hl 4 rfl) ?_
  have hPm : va_P (dC, dI) vwCl [(qM, .inr (7, [.int y2.z_thrown, .int y2.z_down, .int y2.z_lasts, .ref y2.hbu, .int y2.z_size, .int y2.z_documents, .ref y2.hgo, .ref y2.hfi, .ref y2.hma, .ref y2.hln, .ref y2.hau, .ref y2.hsu, .ref y2.hrow, .ref y2.hmade, .int y2.z_madeSize, .ref y2.hbase, .int y2.z_baseSize, .ref y2.htx9, .int y2.z_textSize, .int y2.z_textSteps, .ref y2.hot, .int y2.z_otherSize, .ref y2.hpc, .int y2.z_pieceSize, .int y2.z_at, .int y2.z_end, .int y2.z_value]))] H := ((hP.perm List.perm_append_comm).left).sub [0] rfl
  have hKm : va_K (dC, dI) vwCl [] s := hK.sub [] rfl
  refine ps_i (va_runV (As := []) (rest := []) ⟨hx, hb, hml, hown, hw0⟩ (o_thrown l dC dI qM y2.z_thrown y2.z_down y2.z_lasts y2.hbu y2.z_size y2.z_documents y2.hgo y2.hfi y2.hma y2.hln y2.hau y2.hsu y2.hrow y2.hmade y2.z_madeSize y2.hbase y2.z_baseSize y2.htx9 y2.z_textSize y2.z_textSteps y2.hot y2.z_otherSize y2.hpc y2.z_pieceSize y2.z_at y2.z_end y2.z_value) (cwV 0 hw0 (gd_Vm wm_614 wm_615 wm_616 wm_243 wm_617) rfl rfl rfl (by decide +kernel) ⟨by decide +kernel, by decide +kernel⟩) (prV_R hPm hKm hN (va_recv hKm hPm (ci := 7) (q0 := 0) rfl rfl)) rfl rfl hl.1 rfl (lv_room (Nat.le_of_ble_eq_true rfl)) d_L_law_290 ⟨hcc, hss⟩) (fun r3 hr3 => ?_)
  obtain rfl : r3 = y2.z_thrown := hr3
  clear hPm hKm
  refine lv_iload hx hb d_L_law_293 (lv_at hl 1 rfl) ?_
  refine lv_icmp_eq (tgt := 300) hx hb d_L_law_295 (by decide) (fun c_5 => ?_) (fun c_5 => absurd (hth.trans hw.symm) c_5)
  refine lv_iload hx hb d_L_law_300 (lv_at hl 1 rfl) ?_
  refine lv_if_ne (tgt := 317) hx hb d_L_law_302 (by decide) (fun c_6 => ?_) (fun c_6 => ?_)
  · refine lv_goto (tgt := 842) hx hb d_L_law_317 (by decide) ?_
    exact kk _ x2 ds2 y2 fo2 _ _ ls (sOk_of (sW_commit hsg) hk2) hk2 hm2 hP hD hS (lv_sub hl [2, 3, 4, 5, 6] rfl)
  · refine lv_aload_n hx hb d_L_law_305 rfl (lv_at hl 3 rfl) ?_
    refine lv_iconst (v := 0) hx hb d_L_law_306 (by decide) ?_
    refine va_lald hx hb hK hP 0 0 rfl rfl (by unfold vp_in; decide +kernel) d_L_law_307 ?_
    refine lv_topl (fun x_7 ex_7 => ?_)
    have hz9 := hw.symm.trans c_6
    have fx_7 : x_7 = r2.toInt64 := ex_7.trans (by rw [sb_cl0, hout hz9, hw2 hz9])
    clear ex_7
    refine lv_iload hx hb d_L_law_308 (lv_at hl 0 rfl) ?_
    refine lv_i2l (v := r2.toInt64) hx hb d_L_law_310 rfl ?_
    obtain rfl : x_7 = r2.toInt64 := fx_7
    refine W.lcmp hx hb d_L_law_311 ?_
    refine lv_topi (fun x_8 ex_8 => ?_)
    obtain rfl : x_8 = 0 := ex_8.trans (lg_self _)
    clear ex_8
    refine lv_if_eq (tgt := 317) hx hb d_L_law_312 (by decide) (fun _ => ?_) (fun h9 => absurd h9 (by decide +kernel))
    refine lv_goto (tgt := 842) hx hb d_L_law_317 (by decide) ?_
    exact kk _ x2 ds2 y2 fo2 _ _ ls (sOk_of (sW_commit hsg) hk2) hk2 hm2 hP hD hS (lv_sub hl [2, 3, 4, 5, 6] rfl)
end
section
set_option maxHeartbeats 4000000 in
set_option maxRecDepth 100000 in
theorem lw_c_4 {p : Program} {e : Env} {s : State} {m : MethodId} {below : List Frame} {meth : Method} {c : Code} (l : Launch) (hl9 : l.stackTraces = false) {b L : Nat} {xs : Nat → Int32} (hL : L ≤ 3072) (C0 : lw_At p s m meth c b L xs) {dC : Nat → ClassId} {dI : Nat → Nat → Nat} (qK qM qo : Nat) (cB cD cR cO cB2 cI cL cZ : ClassId) (fo : Nat → Int64) (x : KX) (ds : Nat → Option Dc) (y : MY) (σ : Sg) (i c0 s0 : Nat) (hi : i + 6 ≤ L) (hcc : c0 + 2 ≤ 601024) (hss : s0 + 264 ≤ 7293033) (hsg : sOk σ) (hk : kOk σ x ds) (hm : mOk σ y) (hN : nw_ok s) (hTw : tw_ok s) (hnc : nc_ok s) (hK : va_K (dC, dI) vwCl [(cO, .long), (cB, .byte), (cD, .object R_D), (cR, .object R_V), (cB2, .byte), (cI, .int), (cL, .short), (cZ, .boolean)] s) (H : Heap) (locs : List Loc) (hP : va_P (dC, dI) vwCl ((([(qo, .inl (cO, 1, .inr (.inl (fo))))] : va_W) ++ kW qK cB cD cR x ds) ++ mW qM cB2 cI cL cZ y) H) (hD : va_D (fun q : Nat => s.heap.size ≤ q) ((([(qo, .inl (cO, 1, .inr (.inl (fo))))] : va_W) ++ kW qK cB cD cR x ds) ++ mW qM cB2 cI cL cZ y)) (hS : va_S (fun q : Nat => s.heap.size ≤ q) s.heap H locs) (ls : Array Slot) (hl : lv_has ls 7 [(4, .int (nI i)), (3, .ref qo), (2, .ref qM), (1, .ref qK), (0, .ref b)]) (kk : ∀ (σ : Sg) (x : KX) (ds : Nat → Option Dc) (y : MY) (fo : Nat → Int64) (H : Heap) (locs : List Loc) (ls : Array Slot), sOk σ → kOk σ x ds → mOk σ y → va_P (dC, dI) vwCl ((([(qo, .inl (cO, 1, .inr (.inl (fo))))] : va_W) ++ kW qK cB cD cR x ds) ++ mW qM cB2 cI cL cZ y) H → va_D (fun q : Nat => s.heap.size ≤ q) ((([(qo, .inl (cO, 1, .inr (.inl (fo))))] : va_W) ++ kW qK cB cD cR x ds) ++ mW qM cB2 cI cL cZ y) → va_S (fun q : Nat => s.heap.size ≤ q) s.heap H locs → lv_has ls 7 [(4, .int (nI i)), (3, .ref qo), (2, .ref qM), (1, .ref qK), (0, .ref b)] → W p l e room_1 s m #[Value.ref b] below meth c H locs (c0 + 2) (s0 + 264) (lw_Z below #[Value.ref b] s) (F0 m 842 ls [])) : W p l e room_1 s m #[Value.ref b] below meth c H locs c0 s0 (lw_Z below #[Value.ref b] s) (F0 m 320 ls []) := by
  obtain ⟨hx, hb, hr, hml, hown, hts, hX, hbl, hlocks, hgv⟩ := id C0
  have hw0 : ∀ w ∈ w0, w.before #[Value.ref b] s = true := fun w h => hts w (w0_ok w h).1
  have hA : ∀ q : Nat, s.heap.size ≤ q → (fun q : Nat => s.heap.size ≤ q) q := fun _ h => h
  have hbA : ¬ (fun q : Nat => s.heap.size ≤ q) b := Nat.not_le.mpr hbl
  refine lv_aload_n hx hb d_L_law_320 rfl (lv_at hl 3 rfl) ?_
  refine lv_aload_n hx hb d_L_law_321 rfl (lv_at hl 4 rfl) ?_
  refine lv_iload hx hb d_L_law_322 (lv_at hl 0 rfl) ?_
  refine lv_iconst (v := 1) hx hb d_L_law_324 (by decide) ?_
  refine lv_iadd hx hb d_L_law_325 ?_
  refine lv_topi (fun x_1 ex_1 => ?_)
  obtain rfl : x_1 = nI (i + 1) := ex_1.trans (nI_add i 1)
  refine va_sld hx hb hX hbl hbA hS (x_inK (Nat.le_refl L) (by omega) (nI_pos (by omega)) (nI_ge (by omega) (by omega))) d_L_law_326 ?_
  refine lv_aload_n hx hb d_L_law_327 rfl (lv_at hl 4 rfl) ?_
  refine lv_iload hx hb d_L_law_328 (lv_at hl 0 rfl) ?_
  refine lv_iconst (v := 2) hx hb d_L_law_330 (by decide) ?_
  refine lv_iadd hx hb d_L_law_331 ?_
  refine lv_topi (fun x_2 ex_2 => ?_)
  obtain rfl : x_2 = nI (i + 2) := ex_2.trans (nI_add i 2)
  refine va_sld hx hb hX hbl hbA hS (x_inK (Nat.le_refl L) (by omega) (nI_pos (by omega)) (nI_ge (by omega) (by omega))) d_L_law_332 ?_
  refine lv_aload_n hx hb d_L_law_333 rfl (lv_at hl 1 rfl) ?_
  have hPc : va_P (dC, dI) vwCl (([(qo, .inl (cO, 1, .inr (.inl (fo))))] : va_W) ++ kW qK cB cD cR x ds) H := hP.left
  have hDc : va_D (fun q : Nat => s.heap.size ≤ q) (([(qo, .inl (cO, 1, .inr (.inl (fo))))] : va_W) ++ kW qK cB cD cR x ds) := hD.left
  have hKc : va_K (dC, dI) vwCl [(cO, .long), (cB, .byte), (cD, .object R_D), (cR, .object R_V)] s := hK.sub [0, 1, 2, 3] rfl
  have hFc : ∀ q : Nat, va_A (([(qo, .inl (cO, 1, .inr (.inl (fo))))] : va_W) ++ kW qK cB cD cR x ds) H.size q → (fun q : Nat => s.heap.size ≤ q) q := fr_free hD hS hA (List.Perm.refl _)
  have hS0 := hS
  refine va_calli (va_runSW (As := [.ref qK, .int (xs (Int32.toNatClampNeg (nI (i + 1)))), .int (xs (Int32.toNatClampNeg (nI (i + 2)))), .ref qo]) (rest := []) ⟨hx, hb, hml, hown, hw0⟩ (w_fetch l hl9 dC dI H.size qK qo cB cD cR cO fo x ds σ (xs (Int32.toNatClampNeg (nI (i + 1)))) (xs (Int32.toNatClampNeg (nI (i + 2)))) hsg hk) (csw_of 4 hw0 618 619 620 588 rfl rfl rfl rfl rfl rfl (by decide +kernel) ⟨by decide +kernel, by decide +kernel⟩) (prS_T hPc hKc hDc hN hTw (fun a ha => hS.2.1 a ha (Nat.not_le.mpr ha))) rfl rfl hl.1 rfl (lv_room (Nat.le_of_ble_eq_true rfl)) d_L_law_334 ⟨hcc, hss⟩) hS (fun q _ h => hFc q h) hFc (fun r u t H1 locs ht hvm hw hB hz1 hk1 hS => ?_)
  obtain ⟨fo2, x2, ds2, ⟨hk2, hout⟩, hP1, hK1, hD1⟩ := hB
  rw [ht] at hP1
  obtain ⟨hP, hD⟩ := fr_wld (W2 := ((([(qo, .inl (cO, 1, .inr (.inl (fo2))))] : va_W) ++ kW qK cB cD cR x2 ds2) ++ mW qM cB2 cI cL cZ y)) (A := (fun q : Nat => s.heap.size ≤ q)) (fun q hq => hA q (Nat.le_trans hS0.1 hq)) hP hD (List.Perm.refl _) hk1 hP1 hD1 (kz (List.Perm.refl _))
  clear hPc hDc hKc hFc hP1 hD1 hK1 hk1 hS0
  generalize H1 = H at hP hS ⊢
  refine lv_istore (lv' := [(5, .int r), (4, .int (nI i)), (3, .ref qo), (2, .ref qM), (1, .ref qK), (0, .ref b)]) hx hb d_L_law_337 hl (by decide) rfl (fun ls hl => ?_)
  refine lv_aload_n hx hb d_L_law_339 rfl (lv_at hl 3 rfl) ?_
  refine lv_aload_n hx hb d_L_law_340 rfl (lv_at hl 5 rfl) ?_
  refine lv_iload hx hb d_L_law_341 (lv_at hl 1 rfl) ?_
  refine lv_iconst (v := 1) hx hb d_L_law_343 (by decide) ?_
  refine lv_iadd hx hb d_L_law_344 ?_
  refine lv_topi (fun x_3 ex_3 => ?_)
  obtain rfl : x_3 = nI (i + 1) := ex_3.trans (nI_add i 1)
  refine va_sld hx hb hX hbl hbA hS (x_inK (Nat.le_refl L) (by omega) (nI_pos (by omega)) (nI_ge (by omega) (by omega))) d_L_law_345 ?_
  refine lv_aload_n hx hb d_L_law_346 rfl (lv_at hl 5 rfl) ?_
  refine lv_iload hx hb d_L_law_347 (lv_at hl 1 rfl) ?_
  refine lv_iconst (v := 2) hx hb d_L_law_349 (by decide) ?_
  refine lv_iadd hx hb d_L_law_350 ?_
  refine lv_topi (fun x_4 ex_4 => ?_)
  obtain rfl : x_4 = nI (i + 2) := ex_4.trans (nI_add i 2)
  refine va_sld hx hb hX hbl hbA hS (x_inK (Nat.le_refl L) (by omega) (nI_pos (by omega)) (nI_ge (by omega) (by omega))) d_L_law_351 ?_
  have hPc : va_P (dC, dI) vwCl (mW qM cB2 cI cL cZ y) H := (hP.perm List.perm_append_comm).left
  have hDc : va_D (fun q : Nat => s.heap.size ≤ q) (mW qM cB2 cI cL cZ y) := (hD.perm List.perm_append_comm).left
  have hKc : va_K (dC, dI) vwCl (mT cB2 cI cL cZ) s := hK.sub [4, 5, 6, 7] rfl
  have hFc : ∀ q : Nat, va_A (mW qM cB2 cI cL cZ y) H.size q → (fun q : Nat => s.heap.size ≤ q) q := fr_free hD hS hA List.perm_append_comm
  have hS0 := hS
  refine va_calli (va_runV (As := [.int (xs (Int32.toNatClampNeg (nI (i + 1)))), .int (xs (Int32.toNatClampNeg (nI (i + 2))))]) (rest := []) ⟨hx, hb, hml, hown, hw0⟩ (u_fetch l dC dI H.size qM cB2 cI cL cZ y σ (xs (Int32.toNatClampNeg (nI (i + 1)))) (xs (Int32.toNatClampNeg (nI (i + 2)))) hsg hm) (cwV 2 hw0 (gd_Vm wm_621 wm_622 wm_623 wm_243 wm_624) rfl rfl rfl (by decide +kernel) ⟨by decide +kernel, by decide +kernel⟩) (prV_E hPc hKc hDc hN (va_recv hKc hPc (ci := 7) (q0 := 0) rfl rfl)) rfl rfl hl.1 rfl (lv_room (Nat.le_of_ble_eq_true rfl)) d_L_law_352 ⟨hcc, hss⟩) hS (fun q _ h => hFc q h) hFc (fun r2 u t H1 locs ht hvm hw2 hB hz1 hk1 hS => ?_)
  obtain ⟨y2, ⟨hm2, hth⟩, hP1, hK1, hD1⟩ := hB
  rw [ht] at hP1
  obtain ⟨hP, hD⟩ := fr_wld (W2 := ((([(qo, .inl (cO, 1, .inr (.inl (fo2))))] : va_W) ++ kW qK cB cD cR x2 ds2) ++ mW qM cB2 cI cL cZ y2)) (A := (fun q : Nat => s.heap.size ≤ q)) (fun q hq => hA q (Nat.le_trans hS0.1 hq)) hP hD List.perm_append_comm hk1 hP1 hD1 (kz List.perm_append_comm)
  clear hPc hDc hKc hFc hP1 hD1 hK1 hk1 hS0
  generalize H1 = H at hP hS ⊢
  refine W.widen (k := c0 + 2) (n := s0 + 264) (Nat.le_refl _) (Nat.le_refl _) ?_
  refine lv_istore (lv' := [(6, .int r2), (5, .int r), (4, .int (nI i)), (3, .ref qo), (2, .ref qM), (1, .ref qK), (0, .ref b)]) hx hb d_L_law_355 hl (by decide) rfl (fun ls hl => ?_)
  refine lv_goto (tgt := 842) hx hb d_L_law_357 (by decide) ?_
  exact kk _ x2 ds2 y2 fo2 _ _ ls (sOk_of (sW_fetch (sW_of hsg)) hk2) hk2 hm2 hP hD hS (lv_sub hl [2, 3, 4, 5, 6] rfl)
set_option maxHeartbeats 4000000 in
set_option maxRecDepth 100000 in
theorem lw_c_5 {p : Program} {e : Env} {s : State} {m : MethodId} {below : List Frame} {meth : Method} {c : Code} (l : Launch) (hl9 : l.stackTraces = false) {b L : Nat} {xs : Nat → Int32} (hL : L ≤ 3072) (C0 : lw_At p s m meth c b L xs) {dC : Nat → ClassId} {dI : Nat → Nat → Nat} (qK qM qo : Nat) (cB cD cR cO cB2 cI cL cZ : ClassId) (fo : Nat → Int64) (x : KX) (ds : Nat → Option Dc) (y : MY) (σ : Sg) (i c0 s0 : Nat) (hi : i + 6 ≤ L) (hcc : c0 + 2 ≤ 601024) (hss : s0 + 264 ≤ 7293033) (hsg : sOk σ) (hk : kOk σ x ds) (hm : mOk σ y) (hN : nw_ok s) (hTw : tw_ok s) (hnc : nc_ok s) (hK : va_K (dC, dI) vwCl [(cO, .long), (cB, .byte), (cD, .object R_D), (cR, .object R_V), (cB2, .byte), (cI, .int), (cL, .short), (cZ, .boolean)] s) (H : Heap) (locs : List Loc) (hP : va_P (dC, dI) vwCl ((([(qo, .inl (cO, 1, .inr (.inl (fo))))] : va_W) ++ kW qK cB cD cR x ds) ++ mW qM cB2 cI cL cZ y) H) (hD : va_D (fun q : Nat => s.heap.size ≤ q) ((([(qo, .inl (cO, 1, .inr (.inl (fo))))] : va_W) ++ kW qK cB cD cR x ds) ++ mW qM cB2 cI cL cZ y)) (hS : va_S (fun q : Nat => s.heap.size ≤ q) s.heap H locs) (ls : Array Slot) (hl : lv_has ls 7 [(4, .int (nI i)), (3, .ref qo), (2, .ref qM), (1, .ref qK), (0, .ref b)]) (kk : ∀ (σ : Sg) (x : KX) (ds : Nat → Option Dc) (y : MY) (fo : Nat → Int64) (H : Heap) (locs : List Loc) (ls : Array Slot), sOk σ → kOk σ x ds → mOk σ y → va_P (dC, dI) vwCl ((([(qo, .inl (cO, 1, .inr (.inl (fo))))] : va_W) ++ kW qK cB cD cR x ds) ++ mW qM cB2 cI cL cZ y) H → va_D (fun q : Nat => s.heap.size ≤ q) ((([(qo, .inl (cO, 1, .inr (.inl (fo))))] : va_W) ++ kW qK cB cD cR x ds) ++ mW qM cB2 cI cL cZ y) → va_S (fun q : Nat => s.heap.size ≤ q) s.heap H locs → lv_has ls 7 [(4, .int (nI i)), (3, .ref qo), (2, .ref qM), (1, .ref qK), (0, .ref b)] → W p l e room_1 s m #[Value.ref b] below meth c H locs (c0 + 2) (s0 + 264) (lw_Z below #[Value.ref b] s) (F0 m 842 ls [])) : W p l e room_1 s m #[Value.ref b] below meth c H locs c0 s0 (lw_Z below #[Value.ref b] s) (F0 m 360 ls []) := by
  obtain ⟨hx, hb, hr, hml, hown, hts, hX, hbl, hlocks, hgv⟩ := id C0
  have hw0 : ∀ w ∈ w0, w.before #[Value.ref b] s = true := fun w h => hts w (w0_ok w h).1
  have hA : ∀ q : Nat, s.heap.size ≤ q → (fun q : Nat => s.heap.size ≤ q) q := fun _ h => h
  have hbA : ¬ (fun q : Nat => s.heap.size ≤ q) b := Nat.not_le.mpr hbl
  refine lv_aload_n hx hb d_L_law_360 rfl (lv_at hl 3 rfl) ?_
  refine lv_aload_n hx hb d_L_law_361 rfl (lv_at hl 4 rfl) ?_
  refine lv_iload hx hb d_L_law_362 (lv_at hl 0 rfl) ?_
  refine lv_iconst (v := 1) hx hb d_L_law_364 (by decide) ?_
  refine lv_iadd hx hb d_L_law_365 ?_
  refine lv_topi (fun x_1 ex_1 => ?_)
  obtain rfl : x_1 = nI (i + 1) := ex_1.trans (nI_add i 1)
  refine va_sld hx hb hX hbl hbA hS (x_inK (Nat.le_refl L) (by omega) (nI_pos (by omega)) (nI_ge (by omega) (by omega))) d_L_law_366 ?_
  refine lv_aload_n hx hb d_L_law_367 rfl (lv_at hl 1 rfl) ?_
  have hPc : va_P (dC, dI) vwCl (([(qo, .inl (cO, 1, .inr (.inl (fo))))] : va_W) ++ kW qK cB cD cR x ds) H := hP.left
  have hDc : va_D (fun q : Nat => s.heap.size ≤ q) (([(qo, .inl (cO, 1, .inr (.inl (fo))))] : va_W) ++ kW qK cB cD cR x ds) := hD.left
  have hKc : va_K (dC, dI) vwCl [(cO, .long), (cB, .byte), (cD, .object R_D), (cR, .object R_V)] s := hK.sub [0, 1, 2, 3] rfl
  have hFc : ∀ q : Nat, va_A (([(qo, .inl (cO, 1, .inr (.inl (fo))))] : va_W) ++ kW qK cB cD cR x ds) H.size q → (fun q : Nat => s.heap.size ≤ q) q := fr_free hD hS hA (List.Perm.refl _)
  have hS0 := hS
  refine va_calli (va_runSW (As := [.ref qK, .int (xs (Int32.toNatClampNeg (nI (i + 1)))), .ref qo]) (rest := []) ⟨hx, hb, hml, hown, hw0⟩ (w_out l hl9 dC dI H.size qK qo cB cD cR cO fo x ds σ (xs (Int32.toNatClampNeg (nI (i + 1)))) hsg hk) (csw_of 3 hw0 625 626 627 588 rfl rfl rfl rfl rfl rfl (by decide +kernel) ⟨by decide +kernel, by decide +kernel⟩) (prS_T hPc hKc hDc hN hTw (fun a ha => hS.2.1 a ha (Nat.not_le.mpr ha))) rfl rfl hl.1 rfl (lv_room (Nat.le_of_ble_eq_true rfl)) d_L_law_368 ⟨hcc, hss⟩) hS (fun q _ h => hFc q h) hFc (fun r u t H1 locs ht hvm hw hB hz1 hk1 hS => ?_)
  obtain ⟨fo2, x2, ds2, ⟨hk2, hout⟩, hP1, hK1, hD1⟩ := hB
  rw [ht] at hP1
  obtain ⟨hP, hD⟩ := fr_wld (W2 := ((([(qo, .inl (cO, 1, .inr (.inl (fo2))))] : va_W) ++ kW qK cB cD cR x2 ds2) ++ mW qM cB2 cI cL cZ y)) (A := (fun q : Nat => s.heap.size ≤ q)) (fun q hq => hA q (Nat.le_trans hS0.1 hq)) hP hD (List.Perm.refl _) hk1 hP1 hD1 (kz (List.Perm.refl _))
  clear hPc hDc hKc hFc hP1 hD1 hK1 hk1 hS0
  generalize H1 = H at hP hS ⊢
  refine lv_istore (lv' := [(5, .int r), (4, .int (nI i)), (3, .ref qo), (2, .ref qM), (1, .ref qK), (0, .ref b)]) hx hb d_L_law_371 hl (by decide) rfl (fun ls hl => ?_)
  refine lv_aload_n hx hb d_L_law_373 rfl (lv_at hl 3 rfl) ?_
  refine lv_aload_n hx hb d_L_law_374 rfl (lv_at hl 5 rfl) ?_
  refine lv_iload hx hb d_L_law_375 (lv_at hl 1 rfl) ?_
  refine lv_iconst (v := 1) hx hb d_L_law_377 (by decide) ?_
  refine lv_iadd hx hb d_L_law_378 ?_
  refine lv_topi (fun x_2 ex_2 => ?_)
  obtain rfl : x_2 = nI (i + 1) := ex_2.trans (nI_add i 1)
  refine va_sld hx hb hX hbl hbA hS (x_inK (Nat.le_refl L) (by omega) (nI_pos (by omega)) (nI_ge (by omega) (by omega))) d_L_law_379 ?_
  have hPc : va_P (dC, dI) vwCl (mW qM cB2 cI cL cZ y) H := (hP.perm List.perm_append_comm).left
  have hDc : va_D (fun q : Nat => s.heap.size ≤ q) (mW qM cB2 cI cL cZ y) := (hD.perm List.perm_append_comm).left
  have hKc : va_K (dC, dI) vwCl (mT cB2 cI cL cZ) s := hK.sub [4, 5, 6, 7] rfl
  have hFc : ∀ q : Nat, va_A (mW qM cB2 cI cL cZ y) H.size q → (fun q : Nat => s.heap.size ≤ q) q := fr_free hD hS hA List.perm_append_comm
  have hS0 := hS
  refine va_calli (va_runV (As := [.int (xs (Int32.toNatClampNeg (nI (i + 1))))]) (rest := []) ⟨hx, hb, hml, hown, hw0⟩ (u_out l dC dI H.size qM cB2 cI cL cZ y σ (xs (Int32.toNatClampNeg (nI (i + 1)))) hsg hm) (cwV 1 hw0 (gd_Vm wm_628 wm_629 wm_630 wm_243 wm_631) rfl rfl rfl (by decide +kernel) ⟨by decide +kernel, by decide +kernel⟩) (prV_E hPc hKc hDc hN (va_recv hKc hPc (ci := 7) (q0 := 0) rfl rfl)) rfl rfl hl.1 rfl (lv_room (Nat.le_of_ble_eq_true rfl)) d_L_law_380 ⟨hcc, hss⟩) hS (fun q _ h => hFc q h) hFc (fun r2 u t H1 locs ht hvm hw2 hB hz1 hk1 hS => ?_)
  obtain ⟨y2, ⟨hm2, hth⟩, hP1, hK1, hD1⟩ := hB
  rw [ht] at hP1
  obtain ⟨hP, hD⟩ := fr_wld (W2 := ((([(qo, .inl (cO, 1, .inr (.inl (fo2))))] : va_W) ++ kW qK cB cD cR x2 ds2) ++ mW qM cB2 cI cL cZ y2)) (A := (fun q : Nat => s.heap.size ≤ q)) (fun q hq => hA q (Nat.le_trans hS0.1 hq)) hP hD List.perm_append_comm hk1 hP1 hD1 (kz List.perm_append_comm)
  clear hPc hDc hKc hFc hP1 hD1 hK1 hk1 hS0
  generalize H1 = H at hP hS ⊢
  refine W.widen (k := c0 + 2) (n := s0 + 264) (Nat.le_refl _) (Nat.le_refl _) ?_
  refine lv_istore (lv' := [(6, .int r2), (5, .int r), (4, .int (nI i)), (3, .ref qo), (2, .ref qM), (1, .ref qK), (0, .ref b)]) hx hb d_L_law_383 hl (by decide) rfl (fun ls hl => ?_)
  refine lv_goto (tgt := 842) hx hb d_L_law_385 (by decide) ?_
  rw [st_out] at hk2 hm2
  exact kk _ x2 ds2 y2 fo2 _ _ ls hsg hk2 hm2 hP hD hS (lv_sub hl [2, 3, 4, 5, 6] rfl)
set_option maxHeartbeats 4000000 in
set_option maxRecDepth 100000 in
theorem lw_c_6 {p : Program} {e : Env} {s : State} {m : MethodId} {below : List Frame} {meth : Method} {c : Code} (l : Launch) (hl9 : l.stackTraces = false) {b L : Nat} {xs : Nat → Int32} (hL : L ≤ 3072) (C0 : lw_At p s m meth c b L xs) {dC : Nat → ClassId} {dI : Nat → Nat → Nat} (qK qM qo : Nat) (cB cD cR cO cB2 cI cL cZ : ClassId) (fo : Nat → Int64) (x : KX) (ds : Nat → Option Dc) (y : MY) (σ : Sg) (i c0 s0 : Nat) (hi : i + 6 ≤ L) (hcc : c0 + 2 ≤ 601024) (hss : s0 + 264 ≤ 7293033) (hsg : sOk σ) (hk : kOk σ x ds) (hm : mOk σ y) (hN : nw_ok s) (hTw : tw_ok s) (hnc : nc_ok s) (hK : va_K (dC, dI) vwCl [(cO, .long), (cB, .byte), (cD, .object R_D), (cR, .object R_V), (cB2, .byte), (cI, .int), (cL, .short), (cZ, .boolean)] s) (H : Heap) (locs : List Loc) (hP : va_P (dC, dI) vwCl ((([(qo, .inl (cO, 1, .inr (.inl (fo))))] : va_W) ++ kW qK cB cD cR x ds) ++ mW qM cB2 cI cL cZ y) H) (hD : va_D (fun q : Nat => s.heap.size ≤ q) ((([(qo, .inl (cO, 1, .inr (.inl (fo))))] : va_W) ++ kW qK cB cD cR x ds) ++ mW qM cB2 cI cL cZ y)) (hS : va_S (fun q : Nat => s.heap.size ≤ q) s.heap H locs) (ls : Array Slot) (hl : lv_has ls 7 [(4, .int (nI i)), (3, .ref qo), (2, .ref qM), (1, .ref qK), (0, .ref b)]) (kk : ∀ (σ : Sg) (x : KX) (ds : Nat → Option Dc) (y : MY) (fo : Nat → Int64) (H : Heap) (locs : List Loc) (ls : Array Slot), sOk σ → kOk σ x ds → mOk σ y → va_P (dC, dI) vwCl ((([(qo, .inl (cO, 1, .inr (.inl (fo))))] : va_W) ++ kW qK cB cD cR x ds) ++ mW qM cB2 cI cL cZ y) H → va_D (fun q : Nat => s.heap.size ≤ q) ((([(qo, .inl (cO, 1, .inr (.inl (fo))))] : va_W) ++ kW qK cB cD cR x ds) ++ mW qM cB2 cI cL cZ y) → va_S (fun q : Nat => s.heap.size ≤ q) s.heap H locs → lv_has ls 7 [(4, .int (nI i)), (3, .ref qo), (2, .ref qM), (1, .ref qK), (0, .ref b)] → W p l e room_1 s m #[Value.ref b] below meth c H locs (c0 + 2) (s0 + 264) (lw_Z below #[Value.ref b] s) (F0 m 842 ls [])) : W p l e room_1 s m #[Value.ref b] below meth c H locs c0 s0 (lw_Z below #[Value.ref b] s) (F0 m 388 ls []) := by
  obtain ⟨hx, hb, hr, hml, hown, hts, hX, hbl, hlocks, hgv⟩ := id C0
  have hw0 : ∀ w ∈ w0, w.before #[Value.ref b] s = true := fun w h => hts w (w0_ok w h).1
  have hA : ∀ q : Nat, s.heap.size ≤ q → (fun q : Nat => s.heap.size ≤ q) q := fun _ h => h
  have hbA : ¬ (fun q : Nat => s.heap.size ≤ q) b := Nat.not_le.mpr hbl
  refine lv_aload_n hx hb d_L_law_388 rfl (lv_at hl 3 rfl) ?_
  refine lv_aload_n hx hb d_L_law_389 rfl (lv_at hl 1 rfl) ?_
  have hPc : va_P (dC, dI) vwCl (([(qo, .inl (cO, 1, .inr (.inl (fo))))] : va_W) ++ kW qK cB cD cR x ds) H := hP.left
  have hDc : va_D (fun q : Nat => s.heap.size ≤ q) (([(qo, .inl (cO, 1, .inr (.inl (fo))))] : va_W) ++ kW qK cB cD cR x ds) := hD.left
  have hKc : va_K (dC, dI) vwCl [(cO, .long), (cB, .byte), (cD, .object R_D), (cR, .object R_V)] s := hK.sub [0, 1, 2, 3] rfl
  have hFc : ∀ q : Nat, va_A (([(qo, .inl (cO, 1, .inr (.inl (fo))))] : va_W) ++ kW qK cB cD cR x ds) H.size q → (fun q : Nat => s.heap.size ≤ q) q := fr_free hD hS hA (List.Perm.refl _)
  have hS0 := hS
  refine va_calli (va_runSW (As := [.ref qK, .ref qo]) (rest := []) ⟨hx, hb, hml, hown, hw0⟩ (w_steps l hl9 dC dI H.size qK qo cB cD cR cO fo x ds σ hsg hk) (csw_of 2 hw0 632 633 634 588 rfl rfl rfl rfl rfl rfl (by decide +kernel) ⟨by decide +kernel, by decide +kernel⟩) (prS_T hPc hKc hDc hN hTw (fun a ha => hS.2.1 a ha (Nat.not_le.mpr ha))) rfl rfl hl.1 rfl (lv_room (Nat.le_of_ble_eq_true rfl)) d_L_law_390 ⟨hcc, hss⟩) hS (fun q _ h => hFc q h) hFc (fun r u t H1 locs ht hvm hw hB hz1 hk1 hS => ?_)
  obtain ⟨fo2, x2, ds2, ⟨hk2, hout⟩, hP1, hK1, hD1⟩ := hB
  rw [ht] at hP1
  obtain ⟨hP, hD⟩ := fr_wld (W2 := ((([(qo, .inl (cO, 1, .inr (.inl (fo2))))] : va_W) ++ kW qK cB cD cR x2 ds2) ++ mW qM cB2 cI cL cZ y)) (A := (fun q : Nat => s.heap.size ≤ q)) (fun q hq => hA q (Nat.le_trans hS0.1 hq)) hP hD (List.Perm.refl _) hk1 hP1 hD1 (kz (List.Perm.refl _))
  clear hPc hDc hKc hFc hP1 hD1 hK1 hk1 hS0
  generalize H1 = H at hP hS ⊢
  refine lv_istore (lv' := [(5, .int r), (4, .int (nI i)), (3, .ref qo), (2, .ref qM), (1, .ref qK), (0, .ref b)]) hx hb d_L_law_393 hl (by decide) rfl (fun ls hl => ?_)
  refine lv_aload_n hx hb d_L_law_395 rfl (lv_at hl 3 rfl) ?_
  have hPc : va_P (dC, dI) vwCl (mW qM cB2 cI cL cZ y) H := (hP.perm List.perm_append_comm).left
  have hDc : va_D (fun q : Nat => s.heap.size ≤ q) (mW qM cB2 cI cL cZ y) := (hD.perm List.perm_append_comm).left
  have hKc : va_K (dC, dI) vwCl (mT cB2 cI cL cZ) s := hK.sub [4, 5, 6, 7] rfl
  have hFc : ∀ q : Nat, va_A (mW qM cB2 cI cL cZ y) H.size q → (fun q : Nat => s.heap.size ≤ q) q := fr_free hD hS hA List.perm_append_comm
  have hS0 := hS
  refine va_calli (va_runV (As := []) (rest := []) ⟨hx, hb, hml, hown, hw0⟩ (u_steps l dC dI H.size qM cB2 cI cL cZ y σ hsg hm) (cwV 0 hw0 (gd_Vm wm_635 wm_636 wm_637 wm_243 wm_638) rfl rfl rfl (by decide +kernel) ⟨by decide +kernel, by decide +kernel⟩) (prV_E hPc hKc hDc hN (va_recv hKc hPc (ci := 7) (q0 := 0) rfl rfl)) rfl rfl hl.1 rfl (lv_room (Nat.le_of_ble_eq_true rfl)) d_L_law_396 ⟨hcc, hss⟩) hS (fun q _ h => hFc q h) hFc (fun r2 u t H1 locs ht hvm hw2 hB hz1 hk1 hS => ?_)
  obtain ⟨y2, ⟨hm2, hth⟩, hP1, hK1, hD1⟩ := hB
  rw [ht] at hP1
  obtain ⟨hP, hD⟩ := fr_wld (W2 := ((([(qo, .inl (cO, 1, .inr (.inl (fo2))))] : va_W) ++ kW qK cB cD cR x2 ds2) ++ mW qM cB2 cI cL cZ y2)) (A := (fun q : Nat => s.heap.size ≤ q)) (fun q hq => hA q (Nat.le_trans hS0.1 hq)) hP hD List.perm_append_comm hk1 hP1 hD1 (kz List.perm_append_comm)
  clear hPc hDc hKc hFc hP1 hD1 hK1 hk1 hS0
  generalize H1 = H at hP hS ⊢
  refine W.widen (k := c0 + 2) (n := s0 + 264) (Nat.le_refl _) (Nat.le_refl _) ?_
  refine lv_istore (lv' := [(6, .int r2), (5, .int r), (4, .int (nI i)), (3, .ref qo), (2, .ref qM), (1, .ref qK), (0, .ref b)]) hx hb d_L_law_399 hl (by decide) rfl (fun ls hl => ?_)
  refine lv_goto (tgt := 842) hx hb d_L_law_401 (by decide) ?_
  rw [st_steps] at hk2 hm2
  exact kk _ x2 ds2 y2 fo2 _ _ ls hsg hk2 hm2 hP hD hS (lv_sub hl [2, 3, 4, 5, 6] rfl)
set_option maxHeartbeats 4000000 in
set_option maxRecDepth 100000 in
theorem lw_c_7 {p : Program} {e : Env} {s : State} {m : MethodId} {below : List Frame} {meth : Method} {c : Code} (l : Launch) (hl9 : l.stackTraces = false) {b L : Nat} {xs : Nat → Int32} (hL : L ≤ 3072) (C0 : lw_At p s m meth c b L xs) {dC : Nat → ClassId} {dI : Nat → Nat → Nat} (qK qM qo : Nat) (cB cD cR cO cB2 cI cL cZ : ClassId) (fo : Nat → Int64) (x : KX) (ds : Nat → Option Dc) (y : MY) (σ : Sg) (i c0 s0 : Nat) (hi : i + 6 ≤ L) (hcc : c0 + 2 ≤ 601024) (hss : s0 + 264 ≤ 7293033) (hsg : sOk σ) (hk : kOk σ x ds) (hm : mOk σ y) (hN : nw_ok s) (hTw : tw_ok s) (hnc : nc_ok s) (hK : va_K (dC, dI) vwCl [(cO, .long), (cB, .byte), (cD, .object R_D), (cR, .object R_V), (cB2, .byte), (cI, .int), (cL, .short), (cZ, .boolean)] s) (H : Heap) (locs : List Loc) (hP : va_P (dC, dI) vwCl ((([(qo, .inl (cO, 1, .inr (.inl (fo))))] : va_W) ++ kW qK cB cD cR x ds) ++ mW qM cB2 cI cL cZ y) H) (hD : va_D (fun q : Nat => s.heap.size ≤ q) ((([(qo, .inl (cO, 1, .inr (.inl (fo))))] : va_W) ++ kW qK cB cD cR x ds) ++ mW qM cB2 cI cL cZ y)) (hS : va_S (fun q : Nat => s.heap.size ≤ q) s.heap H locs) (ls : Array Slot) (hl : lv_has ls 7 [(4, .int (nI i)), (3, .ref qo), (2, .ref qM), (1, .ref qK), (0, .ref b)]) (kk : ∀ (σ : Sg) (x : KX) (ds : Nat → Option Dc) (y : MY) (fo : Nat → Int64) (H : Heap) (locs : List Loc) (ls : Array Slot), sOk σ → kOk σ x ds → mOk σ y → va_P (dC, dI) vwCl ((([(qo, .inl (cO, 1, .inr (.inl (fo))))] : va_W) ++ kW qK cB cD cR x ds) ++ mW qM cB2 cI cL cZ y) H → va_D (fun q : Nat => s.heap.size ≤ q) ((([(qo, .inl (cO, 1, .inr (.inl (fo))))] : va_W) ++ kW qK cB cD cR x ds) ++ mW qM cB2 cI cL cZ y) → va_S (fun q : Nat => s.heap.size ≤ q) s.heap H locs → lv_has ls 7 [(4, .int (nI i)), (3, .ref qo), (2, .ref qM), (1, .ref qK), (0, .ref b)] → W p l e room_1 s m #[Value.ref b] below meth c H locs (c0 + 2) (s0 + 264) (lw_Z below #[Value.ref b] s) (F0 m 842 ls [])) : W p l e room_1 s m #[Value.ref b] below meth c H locs c0 s0 (lw_Z below #[Value.ref b] s) (F0 m 404 ls []) := by
  obtain ⟨hx, hb, hr, hml, hown, hts, hX, hbl, hlocks, hgv⟩ := id C0
  have hw0 : ∀ w ∈ w0, w.before #[Value.ref b] s = true := fun w h => hts w (w0_ok w h).1
  have hA : ∀ q : Nat, s.heap.size ≤ q → (fun q : Nat => s.heap.size ≤ q) q := fun _ h => h
  have hbA : ¬ (fun q : Nat => s.heap.size ≤ q) b := Nat.not_le.mpr hbl
  refine lv_aload_n hx hb d_L_law_404 rfl (lv_at hl 3 rfl) ?_
  refine lv_aload_n hx hb d_L_law_405 rfl (lv_at hl 4 rfl) ?_
  refine lv_iload hx hb d_L_law_406 (lv_at hl 0 rfl) ?_
  refine lv_iconst (v := 1) hx hb d_L_law_408 (by decide) ?_
  refine lv_iadd hx hb d_L_law_409 ?_
  refine lv_topi (fun x_1 ex_1 => ?_)
  obtain rfl : x_1 = nI (i + 1) := ex_1.trans (nI_add i 1)
  refine va_sld hx hb hX hbl hbA hS (x_inK (Nat.le_refl L) (by omega) (nI_pos (by omega)) (nI_ge (by omega) (by omega))) d_L_law_410 ?_
  refine lv_aload_n hx hb d_L_law_411 rfl (lv_at hl 4 rfl) ?_
  refine lv_iload hx hb d_L_law_412 (lv_at hl 0 rfl) ?_
  refine lv_iconst (v := 2) hx hb d_L_law_414 (by decide) ?_
  refine lv_iadd hx hb d_L_law_415 ?_
  refine lv_topi (fun x_2 ex_2 => ?_)
  obtain rfl : x_2 = nI (i + 2) := ex_2.trans (nI_add i 2)
  refine va_sld hx hb hX hbl hbA hS (x_inK (Nat.le_refl L) (by omega) (nI_pos (by omega)) (nI_ge (by omega) (by omega))) d_L_law_416 ?_
  refine lv_aload_n hx hb d_L_law_417 rfl (lv_at hl 1 rfl) ?_
  have hPc : va_P (dC, dI) vwCl (([(qo, .inl (cO, 1, .inr (.inl (fo))))] : va_W) ++ kW qK cB cD cR x ds) H := hP.left
  have hDc : va_D (fun q : Nat => s.heap.size ≤ q) (([(qo, .inl (cO, 1, .inr (.inl (fo))))] : va_W) ++ kW qK cB cD cR x ds) := hD.left
  have hKc : va_K (dC, dI) vwCl [(cO, .long), (cB, .byte), (cD, .object R_D), (cR, .object R_V)] s := hK.sub [0, 1, 2, 3] rfl
  have hFc : ∀ q : Nat, va_A (([(qo, .inl (cO, 1, .inr (.inl (fo))))] : va_W) ++ kW qK cB cD cR x ds) H.size q → (fun q : Nat => s.heap.size ≤ q) q := fr_free hD hS hA (List.Perm.refl _)
  have hS0 := hS
  refine va_calli (va_runSW (As := [.ref qK, .int (xs (Int32.toNatClampNeg (nI (i + 1)))), .int (xs (Int32.toNatClampNeg (nI (i + 2)))), .ref qo]) (rest := []) ⟨hx, hb, hml, hown, hw0⟩ (w_trim l hl9 dC dI H.size qK qo cB cD cR cO fo x ds σ (xs (Int32.toNatClampNeg (nI (i + 1)))) (xs (Int32.toNatClampNeg (nI (i + 2)))) hsg hk) (csw_of 4 hw0 639 640 641 588 rfl rfl rfl rfl rfl rfl (by decide +kernel) ⟨by decide +kernel, by decide +kernel⟩) (prS_T hPc hKc hDc hN hTw (fun a ha => hS.2.1 a ha (Nat.not_le.mpr ha))) rfl rfl hl.1 rfl (lv_room (Nat.le_of_ble_eq_true rfl)) d_L_law_418 ⟨hcc, hss⟩) hS (fun q _ h => hFc q h) hFc (fun r u t H1 locs ht hvm hw hB hz1 hk1 hS => ?_)
  obtain ⟨fo2, x2, ds2, ⟨hk2, hout⟩, hP1, hK1, hD1⟩ := hB
  rw [ht] at hP1
  obtain ⟨hP, hD⟩ := fr_wld (W2 := ((([(qo, .inl (cO, 1, .inr (.inl (fo2))))] : va_W) ++ kW qK cB cD cR x2 ds2) ++ mW qM cB2 cI cL cZ y)) (A := (fun q : Nat => s.heap.size ≤ q)) (fun q hq => hA q (Nat.le_trans hS0.1 hq)) hP hD (List.Perm.refl _) hk1 hP1 hD1 (kz (List.Perm.refl _))
  clear hPc hDc hKc hFc hP1 hD1 hK1 hk1 hS0
  generalize H1 = H at hP hS ⊢
  refine lv_istore (lv' := [(5, .int r), (4, .int (nI i)), (3, .ref qo), (2, .ref qM), (1, .ref qK), (0, .ref b)]) hx hb d_L_law_421 hl (by decide) rfl (fun ls hl => ?_)
  refine lv_aload_n hx hb d_L_law_423 rfl (lv_at hl 3 rfl) ?_
  refine lv_aload_n hx hb d_L_law_424 rfl (lv_at hl 5 rfl) ?_
  refine lv_iload hx hb d_L_law_425 (lv_at hl 1 rfl) ?_
  refine lv_iconst (v := 1) hx hb d_L_law_427 (by decide) ?_
  refine lv_iadd hx hb d_L_law_428 ?_
  refine lv_topi (fun x_3 ex_3 => ?_)
  obtain rfl : x_3 = nI (i + 1) := ex_3.trans (nI_add i 1)
  refine va_sld hx hb hX hbl hbA hS (x_inK (Nat.le_refl L) (by omega) (nI_pos (by omega)) (nI_ge (by omega) (by omega))) d_L_law_429 ?_
  refine lv_aload_n hx hb d_L_law_430 rfl (lv_at hl 5 rfl) ?_
  refine lv_iload hx hb d_L_law_431 (lv_at hl 1 rfl) ?_
  refine lv_iconst (v := 2) hx hb d_L_law_433 (by decide) ?_
  refine lv_iadd hx hb d_L_law_434 ?_
  refine lv_topi (fun x_4 ex_4 => ?_)
  obtain rfl : x_4 = nI (i + 2) := ex_4.trans (nI_add i 2)
  refine va_sld hx hb hX hbl hbA hS (x_inK (Nat.le_refl L) (by omega) (nI_pos (by omega)) (nI_ge (by omega) (by omega))) d_L_law_435 ?_
  have hPc : va_P (dC, dI) vwCl (mW qM cB2 cI cL cZ y) H := (hP.perm List.perm_append_comm).left
  have hDc : va_D (fun q : Nat => s.heap.size ≤ q) (mW qM cB2 cI cL cZ y) := (hD.perm List.perm_append_comm).left
  have hKc : va_K (dC, dI) vwCl (mT cB2 cI cL cZ) s := hK.sub [4, 5, 6, 7] rfl
  have hFc : ∀ q : Nat, va_A (mW qM cB2 cI cL cZ y) H.size q → (fun q : Nat => s.heap.size ≤ q) q := fr_free hD hS hA List.perm_append_comm
  have hS0 := hS
  refine va_calli (va_runV (As := [.int (xs (Int32.toNatClampNeg (nI (i + 1)))), .int (xs (Int32.toNatClampNeg (nI (i + 2))))]) (rest := []) ⟨hx, hb, hml, hown, hw0⟩ (u_trim l dC dI H.size qM cB2 cI cL cZ y σ (xs (Int32.toNatClampNeg (nI (i + 1)))) (xs (Int32.toNatClampNeg (nI (i + 2)))) hsg hm) (cwV 2 hw0 (gd_Vm wm_642 wm_643 wm_644 wm_243 wm_645) rfl rfl rfl (by decide +kernel) ⟨by decide +kernel, by decide +kernel⟩) (prV_E hPc hKc hDc hN (va_recv hKc hPc (ci := 7) (q0 := 0) rfl rfl)) rfl rfl hl.1 rfl (lv_room (Nat.le_of_ble_eq_true rfl)) d_L_law_436 ⟨hcc, hss⟩) hS (fun q _ h => hFc q h) hFc (fun r2 u t H1 locs ht hvm hw2 hB hz1 hk1 hS => ?_)
  obtain ⟨y2, ⟨hm2, hth⟩, hP1, hK1, hD1⟩ := hB
  rw [ht] at hP1
  obtain ⟨hP, hD⟩ := fr_wld (W2 := ((([(qo, .inl (cO, 1, .inr (.inl (fo2))))] : va_W) ++ kW qK cB cD cR x2 ds2) ++ mW qM cB2 cI cL cZ y2)) (A := (fun q : Nat => s.heap.size ≤ q)) (fun q hq => hA q (Nat.le_trans hS0.1 hq)) hP hD List.perm_append_comm hk1 hP1 hD1 (kz List.perm_append_comm)
  clear hPc hDc hKc hFc hP1 hD1 hK1 hk1 hS0
  generalize H1 = H at hP hS ⊢
  refine W.widen (k := c0 + 2) (n := s0 + 264) (Nat.le_refl _) (Nat.le_refl _) ?_
  refine lv_istore (lv' := [(6, .int r2), (5, .int r), (4, .int (nI i)), (3, .ref qo), (2, .ref qM), (1, .ref qK), (0, .ref b)]) hx hb d_L_law_439 hl (by decide) rfl (fun ls hl => ?_)
  refine lv_goto (tgt := 842) hx hb d_L_law_441 (by decide) ?_
  exact kk _ x2 ds2 y2 fo2 _ _ ls (sOk_of (sW_trim (sW_of hsg) (fun i d h => (hsg.ds i d h).2.2.1)) hk2) hk2 hm2 hP hD hS (lv_sub hl [2, 3, 4, 5, 6] rfl)
end
section
set_option maxHeartbeats 4000000 in
set_option maxRecDepth 100000 in
theorem lw_c_8 {p : Program} {e : Env} {s : State} {m : MethodId} {below : List Frame} {meth : Method} {c : Code} (l : Launch) (hl9 : l.stackTraces = false) {b L : Nat} {xs : Nat → Int32} (hL : L ≤ 3072) (C0 : lw_At p s m meth c b L xs) {dC : Nat → ClassId} {dI : Nat → Nat → Nat} (qK qM qo : Nat) (cB cD cR cO cB2 cI cL cZ : ClassId) (fo : Nat → Int64) (x : KX) (ds : Nat → Option Dc) (y : MY) (σ : Sg) (i c0 s0 : Nat) (hi : i + 6 ≤ L) (hcc : c0 + 2 ≤ 601024) (hss : s0 + 264 ≤ 7293033) (hsg : sOk σ) (hk : kOk σ x ds) (hm : mOk σ y) (hN : nw_ok s) (hTw : tw_ok s) (hnc : nc_ok s) (hK : va_K (dC, dI) vwCl [(cO, .long), (cB, .byte), (cD, .object R_D), (cR, .object R_V), (cB2, .byte), (cI, .int), (cL, .short), (cZ, .boolean)] s) (H : Heap) (locs : List Loc) (hP : va_P (dC, dI) vwCl ((([(qo, .inl (cO, 1, .inr (.inl (fo))))] : va_W) ++ kW qK cB cD cR x ds) ++ mW qM cB2 cI cL cZ y) H) (hD : va_D (fun q : Nat => s.heap.size ≤ q) ((([(qo, .inl (cO, 1, .inr (.inl (fo))))] : va_W) ++ kW qK cB cD cR x ds) ++ mW qM cB2 cI cL cZ y)) (hS : va_S (fun q : Nat => s.heap.size ≤ q) s.heap H locs) (ls : Array Slot) (hl : lv_has ls 7 [(4, .int (nI i)), (3, .ref qo), (2, .ref qM), (1, .ref qK), (0, .ref b)]) (kk : ∀ (σ : Sg) (x : KX) (ds : Nat → Option Dc) (y : MY) (fo : Nat → Int64) (H : Heap) (locs : List Loc) (ls : Array Slot), sOk σ → kOk σ x ds → mOk σ y → va_P (dC, dI) vwCl ((([(qo, .inl (cO, 1, .inr (.inl (fo))))] : va_W) ++ kW qK cB cD cR x ds) ++ mW qM cB2 cI cL cZ y) H → va_D (fun q : Nat => s.heap.size ≤ q) ((([(qo, .inl (cO, 1, .inr (.inl (fo))))] : va_W) ++ kW qK cB cD cR x ds) ++ mW qM cB2 cI cL cZ y) → va_S (fun q : Nat => s.heap.size ≤ q) s.heap H locs → lv_has ls 7 [(4, .int (nI i)), (3, .ref qo), (2, .ref qM), (1, .ref qK), (0, .ref b)] → W p l e room_1 s m #[Value.ref b] below meth c H locs (c0 + 2) (s0 + 264) (lw_Z below #[Value.ref b] s) (F0 m 842 ls [])) : W p l e room_1 s m #[Value.ref b] below meth c H locs c0 s0 (lw_Z below #[Value.ref b] s) (F0 m 444 ls []) := by
  obtain ⟨hx, hb, hr, hml, hown, hts, hX, hbl, hlocks, hgv⟩ := id C0
  have hw0 : ∀ w ∈ w0, w.before #[Value.ref b] s = true := fun w h => hts w (w0_ok w h).1
  have hA : ∀ q : Nat, s.heap.size ≤ q → (fun q : Nat => s.heap.size ≤ q) q := fun _ h => h
  have hbA : ¬ (fun q : Nat => s.heap.size ≤ q) b := Nat.not_le.mpr hbl
  refine lv_aload_n hx hb d_L_law_444 rfl (lv_at hl 3 rfl) ?_
  refine lv_aload_n hx hb d_L_law_445 rfl (lv_at hl 4 rfl) ?_
  refine lv_iload hx hb d_L_law_446 (lv_at hl 0 rfl) ?_
  refine lv_iconst (v := 1) hx hb d_L_law_448 (by decide) ?_
  refine lv_iadd hx hb d_L_law_449 ?_
  refine lv_topi (fun x_1 ex_1 => ?_)
  obtain rfl : x_1 = nI (i + 1) := ex_1.trans (nI_add i 1)
  refine va_sld hx hb hX hbl hbA hS (x_inK (Nat.le_refl L) (by omega) (nI_pos (by omega)) (nI_ge (by omega) (by omega))) d_L_law_450 ?_
  refine lv_aload_n hx hb d_L_law_451 rfl (lv_at hl 1 rfl) ?_
  have hPc : va_P (dC, dI) vwCl (([(qo, .inl (cO, 1, .inr (.inl (fo))))] : va_W) ++ kW qK cB cD cR x ds) H := hP.left
  have hDc : va_D (fun q : Nat => s.heap.size ≤ q) (([(qo, .inl (cO, 1, .inr (.inl (fo))))] : va_W) ++ kW qK cB cD cR x ds) := hD.left
  have hKc : va_K (dC, dI) vwCl [(cO, .long), (cB, .byte), (cD, .object R_D), (cR, .object R_V)] s := hK.sub [0, 1, 2, 3] rfl
  have hFc : ∀ q : Nat, va_A (([(qo, .inl (cO, 1, .inr (.inl (fo))))] : va_W) ++ kW qK cB cD cR x ds) H.size q → (fun q : Nat => s.heap.size ≤ q) q := fr_free hD hS hA (List.Perm.refl _)
  have hS0 := hS
  refine va_calli (va_runSW (As := [.ref qK, .int (xs (Int32.toNatClampNeg (nI (i + 1)))), .ref qo]) (rest := []) ⟨hx, hb, hml, hown, hw0⟩ (w_dropDocument l hl9 dC dI H.size qK qo cB cD cR cO fo x ds σ (xs (Int32.toNatClampNeg (nI (i + 1)))) hsg hk) (csw_of 3 hw0 646 647 648 588 rfl rfl rfl rfl rfl rfl (by decide +kernel) ⟨by decide +kernel, by decide +kernel⟩) (prS_T hPc hKc hDc hN hTw (fun a ha => hS.2.1 a ha (Nat.not_le.mpr ha))) rfl rfl hl.1 rfl (lv_room (Nat.le_of_ble_eq_true rfl)) d_L_law_452 ⟨hcc, hss⟩) hS (fun q _ h => hFc q h) hFc (fun r u t H1 locs ht hvm hw hB hz1 hk1 hS => ?_)
  obtain ⟨fo2, x2, ds2, ⟨hk2, hout⟩, hP1, hK1, hD1⟩ := hB
  rw [ht] at hP1
  obtain ⟨hP, hD⟩ := fr_wld (W2 := ((([(qo, .inl (cO, 1, .inr (.inl (fo2))))] : va_W) ++ kW qK cB cD cR x2 ds2) ++ mW qM cB2 cI cL cZ y)) (A := (fun q : Nat => s.heap.size ≤ q)) (fun q hq => hA q (Nat.le_trans hS0.1 hq)) hP hD (List.Perm.refl _) hk1 hP1 hD1 (kz (List.Perm.refl _))
  clear hPc hDc hKc hFc hP1 hD1 hK1 hk1 hS0
  generalize H1 = H at hP hS ⊢
  refine lv_istore (lv' := [(5, .int r), (4, .int (nI i)), (3, .ref qo), (2, .ref qM), (1, .ref qK), (0, .ref b)]) hx hb d_L_law_455 hl (by decide) rfl (fun ls hl => ?_)
  refine lv_aload_n hx hb d_L_law_457 rfl (lv_at hl 3 rfl) ?_
  refine lv_aload_n hx hb d_L_law_458 rfl (lv_at hl 5 rfl) ?_
  refine lv_iload hx hb d_L_law_459 (lv_at hl 1 rfl) ?_
  refine lv_iconst (v := 1) hx hb d_L_law_461 (by decide) ?_
  refine lv_iadd hx hb d_L_law_462 ?_
  refine lv_topi (fun x_2 ex_2 => ?_)
  obtain rfl : x_2 = nI (i + 1) := ex_2.trans (nI_add i 1)
  refine va_sld hx hb hX hbl hbA hS (x_inK (Nat.le_refl L) (by omega) (nI_pos (by omega)) (nI_ge (by omega) (by omega))) d_L_law_463 ?_
  have hPc : va_P (dC, dI) vwCl (mW qM cB2 cI cL cZ y) H := (hP.perm List.perm_append_comm).left
  have hDc : va_D (fun q : Nat => s.heap.size ≤ q) (mW qM cB2 cI cL cZ y) := (hD.perm List.perm_append_comm).left
  have hKc : va_K (dC, dI) vwCl (mT cB2 cI cL cZ) s := hK.sub [4, 5, 6, 7] rfl
  have hFc : ∀ q : Nat, va_A (mW qM cB2 cI cL cZ y) H.size q → (fun q : Nat => s.heap.size ≤ q) q := fr_free hD hS hA List.perm_append_comm
  have hS0 := hS
  refine va_calli (va_runV (As := [.int (xs (Int32.toNatClampNeg (nI (i + 1))))]) (rest := []) ⟨hx, hb, hml, hown, hw0⟩ (u_dropDocument l dC dI H.size qM cB2 cI cL cZ y σ (xs (Int32.toNatClampNeg (nI (i + 1)))) hsg hm) (cwV 1 hw0 (gd_Vm wm_649 wm_650 wm_651 wm_243 wm_652) rfl rfl rfl (by decide +kernel) ⟨by decide +kernel, by decide +kernel⟩) (prV_E hPc hKc hDc hN (va_recv hKc hPc (ci := 7) (q0 := 0) rfl rfl)) rfl rfl hl.1 rfl (lv_room (Nat.le_of_ble_eq_true rfl)) d_L_law_464 ⟨hcc, hss⟩) hS (fun q _ h => hFc q h) hFc (fun r2 u t H1 locs ht hvm hw2 hB hz1 hk1 hS => ?_)
  obtain ⟨y2, ⟨hm2, hth⟩, hP1, hK1, hD1⟩ := hB
  rw [ht] at hP1
  obtain ⟨hP, hD⟩ := fr_wld (W2 := ((([(qo, .inl (cO, 1, .inr (.inl (fo2))))] : va_W) ++ kW qK cB cD cR x2 ds2) ++ mW qM cB2 cI cL cZ y2)) (A := (fun q : Nat => s.heap.size ≤ q)) (fun q hq => hA q (Nat.le_trans hS0.1 hq)) hP hD List.perm_append_comm hk1 hP1 hD1 (kz List.perm_append_comm)
  clear hPc hDc hKc hFc hP1 hD1 hK1 hk1 hS0
  generalize H1 = H at hP hS ⊢
  refine W.widen (k := c0 + 2) (n := s0 + 264) (Nat.le_refl _) (Nat.le_refl _) ?_
  refine lv_istore (lv' := [(6, .int r2), (5, .int r), (4, .int (nI i)), (3, .ref qo), (2, .ref qM), (1, .ref qK), (0, .ref b)]) hx hb d_L_law_467 hl (by decide) rfl (fun ls hl => ?_)
  refine lv_goto (tgt := 842) hx hb d_L_law_469 (by decide) ?_
  exact kk _ x2 ds2 y2 fo2 _ _ ls (sOk_of (sW_drop (sW_of hsg)) hk2) hk2 hm2 hP hD hS (lv_sub hl [2, 3, 4, 5, 6] rfl)
set_option maxHeartbeats 4000000 in
set_option maxRecDepth 100000 in
theorem lw_c_9 {p : Program} {e : Env} {s : State} {m : MethodId} {below : List Frame} {meth : Method} {c : Code} (l : Launch) (hl9 : l.stackTraces = false) {b L : Nat} {xs : Nat → Int32} (hL : L ≤ 3072) (C0 : lw_At p s m meth c b L xs) {dC : Nat → ClassId} {dI : Nat → Nat → Nat} (qK qM qo : Nat) (cB cD cR cO cB2 cI cL cZ : ClassId) (fo : Nat → Int64) (x : KX) (ds : Nat → Option Dc) (y : MY) (σ : Sg) (i c0 s0 : Nat) (hi : i + 6 ≤ L) (hcc : c0 + 2 ≤ 601024) (hss : s0 + 264 ≤ 7293033) (hsg : sOk σ) (hk : kOk σ x ds) (hm : mOk σ y) (hN : nw_ok s) (hTw : tw_ok s) (hnc : nc_ok s) (hK : va_K (dC, dI) vwCl [(cO, .long), (cB, .byte), (cD, .object R_D), (cR, .object R_V), (cB2, .byte), (cI, .int), (cL, .short), (cZ, .boolean)] s) (H : Heap) (locs : List Loc) (hP : va_P (dC, dI) vwCl ((([(qo, .inl (cO, 1, .inr (.inl (fo))))] : va_W) ++ kW qK cB cD cR x ds) ++ mW qM cB2 cI cL cZ y) H) (hD : va_D (fun q : Nat => s.heap.size ≤ q) ((([(qo, .inl (cO, 1, .inr (.inl (fo))))] : va_W) ++ kW qK cB cD cR x ds) ++ mW qM cB2 cI cL cZ y)) (hS : va_S (fun q : Nat => s.heap.size ≤ q) s.heap H locs) (ls : Array Slot) (hl : lv_has ls 7 [(4, .int (nI i)), (3, .ref qo), (2, .ref qM), (1, .ref qK), (0, .ref b)]) (kk : ∀ (σ : Sg) (x : KX) (ds : Nat → Option Dc) (y : MY) (fo : Nat → Int64) (H : Heap) (locs : List Loc) (ls : Array Slot), sOk σ → kOk σ x ds → mOk σ y → va_P (dC, dI) vwCl ((([(qo, .inl (cO, 1, .inr (.inl (fo))))] : va_W) ++ kW qK cB cD cR x ds) ++ mW qM cB2 cI cL cZ y) H → va_D (fun q : Nat => s.heap.size ≤ q) ((([(qo, .inl (cO, 1, .inr (.inl (fo))))] : va_W) ++ kW qK cB cD cR x ds) ++ mW qM cB2 cI cL cZ y) → va_S (fun q : Nat => s.heap.size ≤ q) s.heap H locs → lv_has ls 7 [(4, .int (nI i)), (3, .ref qo), (2, .ref qM), (1, .ref qK), (0, .ref b)] → W p l e room_1 s m #[Value.ref b] below meth c H locs (c0 + 2) (s0 + 264) (lw_Z below #[Value.ref b] s) (F0 m 842 ls [])) : W p l e room_1 s m #[Value.ref b] below meth c H locs c0 s0 (lw_Z below #[Value.ref b] s) (F0 m 472 ls []) := by
  obtain ⟨hx, hb, hr, hml, hown, hts, hX, hbl, hlocks, hgv⟩ := id C0
  have hw0 : ∀ w ∈ w0, w.before #[Value.ref b] s = true := fun w h => hts w (w0_ok w h).1
  have hA : ∀ q : Nat, s.heap.size ≤ q → (fun q : Nat => s.heap.size ≤ q) q := fun _ h => h
  have hbA : ¬ (fun q : Nat => s.heap.size ≤ q) b := Nat.not_le.mpr hbl
  refine lv_aload_n hx hb d_L_law_472 rfl (lv_at hl 3 rfl) ?_
  refine lv_aload_n hx hb d_L_law_473 rfl (lv_at hl 4 rfl) ?_
  refine lv_iload hx hb d_L_law_474 (lv_at hl 0 rfl) ?_
  refine lv_iconst (v := 1) hx hb d_L_law_476 (by decide) ?_
  refine lv_iadd hx hb d_L_law_477 ?_
  refine lv_topi (fun x_1 ex_1 => ?_)
  obtain rfl : x_1 = nI (i + 1) := ex_1.trans (nI_add i 1)
  refine va_sld hx hb hX hbl hbA hS (x_inK (Nat.le_refl L) (by omega) (nI_pos (by omega)) (nI_ge (by omega) (by omega))) d_L_law_478 ?_
  refine lv_aload_n hx hb d_L_law_479 rfl (lv_at hl 4 rfl) ?_
  refine lv_iload hx hb d_L_law_480 (lv_at hl 0 rfl) ?_
  refine lv_iconst (v := 2) hx hb d_L_law_482 (by decide) ?_
  refine lv_iadd hx hb d_L_law_483 ?_
  refine lv_topi (fun x_2 ex_2 => ?_)
  obtain rfl : x_2 = nI (i + 2) := ex_2.trans (nI_add i 2)
  refine va_sld hx hb hX hbl hbA hS (x_inK (Nat.le_refl L) (by omega) (nI_pos (by omega)) (nI_ge (by omega) (by omega))) d_L_law_484 ?_
  refine lv_aload_n hx hb d_L_law_485 rfl (lv_at hl 1 rfl) ?_
  have hPc : va_P (dC, dI) vwCl (([(qo, .inl (cO, 1, .inr (.inl (fo))))] : va_W) ++ kW qK cB cD cR x ds) H := hP.left
  have hDc : va_D (fun q : Nat => s.heap.size ≤ q) (([(qo, .inl (cO, 1, .inr (.inl (fo))))] : va_W) ++ kW qK cB cD cR x ds) := hD.left
  have hKc : va_K (dC, dI) vwCl [(cO, .long), (cB, .byte), (cD, .object R_D), (cR, .object R_V)] s := hK.sub [0, 1, 2, 3] rfl
  have hFc : ∀ q : Nat, va_A (([(qo, .inl (cO, 1, .inr (.inl (fo))))] : va_W) ++ kW qK cB cD cR x ds) H.size q → (fun q : Nat => s.heap.size ≤ q) q := fr_free hD hS hA (List.Perm.refl _)
  have hS0 := hS
  refine va_calli (va_runSW (As := [.ref qK, .int (xs (Int32.toNatClampNeg (nI (i + 1)))), .int (xs (Int32.toNatClampNeg (nI (i + 2)))), .ref qo]) (rest := []) ⟨hx, hb, hml, hown, hw0⟩ (w_about l hl9 dC dI H.size qK qo cB cD cR cO fo x ds σ (xs (Int32.toNatClampNeg (nI (i + 1)))) (xs (Int32.toNatClampNeg (nI (i + 2)))) hsg hk) (csw_of 4 hw0 653 654 655 588 rfl rfl rfl rfl rfl rfl (by decide +kernel) ⟨by decide +kernel, by decide +kernel⟩) (prS_TN hPc hKc hDc hN hTw hnc (fun a ha => hS.2.1 a ha (Nat.not_le.mpr ha))) rfl rfl hl.1 rfl (lv_room (Nat.le_of_ble_eq_true rfl)) d_L_law_486 ⟨hcc, hss⟩) hS (fun q _ h => hFc q h) hFc (fun r u t H1 locs ht hvm hw hB hz1 hk1 hS => ?_)
  obtain ⟨fo2, x2, ds2, ⟨hk2, hout⟩, hP1, hK1, hD1⟩ := hB
  rw [ht] at hP1
  obtain ⟨hP, hD⟩ := fr_wld (W2 := ((([(qo, .inl (cO, 1, .inr (.inl (fo2))))] : va_W) ++ kW qK cB cD cR x2 ds2) ++ mW qM cB2 cI cL cZ y)) (A := (fun q : Nat => s.heap.size ≤ q)) (fun q hq => hA q (Nat.le_trans hS0.1 hq)) hP hD (List.Perm.refl _) hk1 hP1 hD1 (kz (List.Perm.refl _))
  clear hPc hDc hKc hFc hP1 hD1 hK1 hk1 hS0
  generalize H1 = H at hP hS ⊢
  refine lv_istore (lv' := [(5, .int r), (4, .int (nI i)), (3, .ref qo), (2, .ref qM), (1, .ref qK), (0, .ref b)]) hx hb d_L_law_489 hl (by decide) rfl (fun ls hl => ?_)
  refine lv_aload_n hx hb d_L_law_491 rfl (lv_at hl 3 rfl) ?_
  refine lv_aload_n hx hb d_L_law_492 rfl (lv_at hl 5 rfl) ?_
  refine lv_iload hx hb d_L_law_493 (lv_at hl 1 rfl) ?_
  refine lv_iconst (v := 1) hx hb d_L_law_495 (by decide) ?_
  refine lv_iadd hx hb d_L_law_496 ?_
  refine lv_topi (fun x_3 ex_3 => ?_)
  obtain rfl : x_3 = nI (i + 1) := ex_3.trans (nI_add i 1)
  refine va_sld hx hb hX hbl hbA hS (x_inK (Nat.le_refl L) (by omega) (nI_pos (by omega)) (nI_ge (by omega) (by omega))) d_L_law_497 ?_
  refine lv_aload_n hx hb d_L_law_498 rfl (lv_at hl 5 rfl) ?_
  refine lv_iload hx hb d_L_law_499 (lv_at hl 1 rfl) ?_
  refine lv_iconst (v := 2) hx hb d_L_law_501 (by decide) ?_
  refine lv_iadd hx hb d_L_law_502 ?_
  refine lv_topi (fun x_4 ex_4 => ?_)
  obtain rfl : x_4 = nI (i + 2) := ex_4.trans (nI_add i 2)
  refine va_sld hx hb hX hbl hbA hS (x_inK (Nat.le_refl L) (by omega) (nI_pos (by omega)) (nI_ge (by omega) (by omega))) d_L_law_503 ?_
  have hPc : va_P (dC, dI) vwCl (mW qM cB2 cI cL cZ y) H := (hP.perm List.perm_append_comm).left
  have hDc : va_D (fun q : Nat => s.heap.size ≤ q) (mW qM cB2 cI cL cZ y) := (hD.perm List.perm_append_comm).left
  have hKc : va_K (dC, dI) vwCl (mT cB2 cI cL cZ) s := hK.sub [4, 5, 6, 7] rfl
  have hFc : ∀ q : Nat, va_A (mW qM cB2 cI cL cZ y) H.size q → (fun q : Nat => s.heap.size ≤ q) q := fr_free hD hS hA List.perm_append_comm
  have hS0 := hS
  refine va_calli (va_runV (As := [.int (xs (Int32.toNatClampNeg (nI (i + 1)))), .int (xs (Int32.toNatClampNeg (nI (i + 2))))]) (rest := []) ⟨hx, hb, hml, hown, hw0⟩ (u_about l dC dI H.size qM cB2 cI cL cZ y σ (xs (Int32.toNatClampNeg (nI (i + 1)))) (xs (Int32.toNatClampNeg (nI (i + 2)))) hsg hm) (cwV 2 hw0 (gd_Vm wm_656 wm_657 wm_658 wm_243 wm_659) rfl rfl rfl (by decide +kernel) ⟨by decide +kernel, by decide +kernel⟩) (prV_E hPc hKc hDc hN (va_recv hKc hPc (ci := 7) (q0 := 0) rfl rfl)) rfl rfl hl.1 rfl (lv_room (Nat.le_of_ble_eq_true rfl)) d_L_law_504 ⟨hcc, hss⟩) hS (fun q _ h => hFc q h) hFc (fun r2 u t H1 locs ht hvm hw2 hB hz1 hk1 hS => ?_)
  obtain ⟨y2, ⟨hm2, hth⟩, hP1, hK1, hD1⟩ := hB
  rw [ht] at hP1
  obtain ⟨hP, hD⟩ := fr_wld (W2 := ((([(qo, .inl (cO, 1, .inr (.inl (fo2))))] : va_W) ++ kW qK cB cD cR x2 ds2) ++ mW qM cB2 cI cL cZ y2)) (A := (fun q : Nat => s.heap.size ≤ q)) (fun q hq => hA q (Nat.le_trans hS0.1 hq)) hP hD List.perm_append_comm hk1 hP1 hD1 (kz List.perm_append_comm)
  clear hPc hDc hKc hFc hP1 hD1 hK1 hk1 hS0
  generalize H1 = H at hP hS ⊢
  refine W.widen (k := c0 + 2) (n := s0 + 264) (Nat.le_refl _) (Nat.le_refl _) ?_
  refine lv_istore (lv' := [(6, .int r2), (5, .int r), (4, .int (nI i)), (3, .ref qo), (2, .ref qM), (1, .ref qK), (0, .ref b)]) hx hb d_L_law_507 hl (by decide) rfl (fun ls hl => ?_)
  refine lv_goto (tgt := 842) hx hb d_L_law_509 (by decide) ?_
  rw [st_about] at hk2 hm2
  exact kk _ x2 ds2 y2 fo2 _ _ ls hsg hk2 hm2 hP hD hS (lv_sub hl [2, 3, 4, 5, 6] rfl)
set_option maxHeartbeats 4000000 in
set_option maxRecDepth 100000 in
theorem lw_c_10 {p : Program} {e : Env} {s : State} {m : MethodId} {below : List Frame} {meth : Method} {c : Code} (l : Launch) (hl9 : l.stackTraces = false) {b L : Nat} {xs : Nat → Int32} (hL : L ≤ 3072) (C0 : lw_At p s m meth c b L xs) {dC : Nat → ClassId} {dI : Nat → Nat → Nat} (qK qM qo : Nat) (cB cD cR cO cB2 cI cL cZ : ClassId) (fo : Nat → Int64) (x : KX) (ds : Nat → Option Dc) (y : MY) (σ : Sg) (i c0 s0 : Nat) (hi : i + 6 ≤ L) (hcc : c0 + 2 ≤ 601024) (hss : s0 + 264 ≤ 7293033) (hsg : sOk σ) (hk : kOk σ x ds) (hm : mOk σ y) (hN : nw_ok s) (hTw : tw_ok s) (hnc : nc_ok s) (hK : va_K (dC, dI) vwCl [(cO, .long), (cB, .byte), (cD, .object R_D), (cR, .object R_V), (cB2, .byte), (cI, .int), (cL, .short), (cZ, .boolean)] s) (H : Heap) (locs : List Loc) (hP : va_P (dC, dI) vwCl ((([(qo, .inl (cO, 1, .inr (.inl (fo))))] : va_W) ++ kW qK cB cD cR x ds) ++ mW qM cB2 cI cL cZ y) H) (hD : va_D (fun q : Nat => s.heap.size ≤ q) ((([(qo, .inl (cO, 1, .inr (.inl (fo))))] : va_W) ++ kW qK cB cD cR x ds) ++ mW qM cB2 cI cL cZ y)) (hS : va_S (fun q : Nat => s.heap.size ≤ q) s.heap H locs) (ls : Array Slot) (hl : lv_has ls 7 [(4, .int (nI i)), (3, .ref qo), (2, .ref qM), (1, .ref qK), (0, .ref b)]) (kk : ∀ (σ : Sg) (x : KX) (ds : Nat → Option Dc) (y : MY) (fo : Nat → Int64) (H : Heap) (locs : List Loc) (ls : Array Slot), sOk σ → kOk σ x ds → mOk σ y → va_P (dC, dI) vwCl ((([(qo, .inl (cO, 1, .inr (.inl (fo))))] : va_W) ++ kW qK cB cD cR x ds) ++ mW qM cB2 cI cL cZ y) H → va_D (fun q : Nat => s.heap.size ≤ q) ((([(qo, .inl (cO, 1, .inr (.inl (fo))))] : va_W) ++ kW qK cB cD cR x ds) ++ mW qM cB2 cI cL cZ y) → va_S (fun q : Nat => s.heap.size ≤ q) s.heap H locs → lv_has ls 7 [(4, .int (nI i)), (3, .ref qo), (2, .ref qM), (1, .ref qK), (0, .ref b)] → W p l e room_1 s m #[Value.ref b] below meth c H locs (c0 + 2) (s0 + 264) (lw_Z below #[Value.ref b] s) (F0 m 842 ls [])) : W p l e room_1 s m #[Value.ref b] below meth c H locs c0 s0 (lw_Z below #[Value.ref b] s) (F0 m 512 ls []) := by
  obtain ⟨hx, hb, hr, hml, hown, hts, hX, hbl, hlocks, hgv⟩ := id C0
  have hw0 : ∀ w ∈ w0, w.before #[Value.ref b] s = true := fun w h => hts w (w0_ok w h).1
  have hA : ∀ q : Nat, s.heap.size ≤ q → (fun q : Nat => s.heap.size ≤ q) q := fun _ h => h
  have hbA : ¬ (fun q : Nat => s.heap.size ≤ q) b := Nat.not_le.mpr hbl
  refine lv_aload_n hx hb d_L_law_512 rfl (lv_at hl 3 rfl) ?_
  refine lv_aload_n hx hb d_L_law_513 rfl (lv_at hl 4 rfl) ?_
  refine lv_iload hx hb d_L_law_514 (lv_at hl 0 rfl) ?_
  refine lv_iconst (v := 1) hx hb d_L_law_516 (by decide) ?_
  refine lv_iadd hx hb d_L_law_517 ?_
  refine lv_topi (fun x_1 ex_1 => ?_)
  obtain rfl : x_1 = nI (i + 1) := ex_1.trans (nI_add i 1)
  refine va_sld hx hb hX hbl hbA hS (x_inK (Nat.le_refl L) (by omega) (nI_pos (by omega)) (nI_ge (by omega) (by omega))) d_L_law_518 ?_
  refine lv_aload_n hx hb d_L_law_519 rfl (lv_at hl 4 rfl) ?_
  refine lv_iload hx hb d_L_law_520 (lv_at hl 0 rfl) ?_
  refine lv_iconst (v := 2) hx hb d_L_law_522 (by decide) ?_
  refine lv_iadd hx hb d_L_law_523 ?_
  refine lv_topi (fun x_2 ex_2 => ?_)
  obtain rfl : x_2 = nI (i + 2) := ex_2.trans (nI_add i 2)
  refine va_sld hx hb hX hbl hbA hS (x_inK (Nat.le_refl L) (by omega) (nI_pos (by omega)) (nI_ge (by omega) (by omega))) d_L_law_524 ?_
  refine lv_aload_n hx hb d_L_law_525 rfl (lv_at hl 4 rfl) ?_
  refine lv_iload hx hb d_L_law_526 (lv_at hl 0 rfl) ?_
  refine lv_iconst (v := 3) hx hb d_L_law_528 (by decide) ?_
  refine lv_iadd hx hb d_L_law_529 ?_
  refine lv_topi (fun x_3 ex_3 => ?_)
  obtain rfl : x_3 = nI (i + 3) := ex_3.trans (nI_add i 3)
  refine va_sld hx hb hX hbl hbA hS (x_inK (Nat.le_refl L) (by omega) (nI_pos (by omega)) (nI_ge (by omega) (by omega))) d_L_law_530 ?_
  refine lv_aload_n hx hb d_L_law_531 rfl (lv_at hl 1 rfl) ?_
  have hPc : va_P (dC, dI) vwCl (([(qo, .inl (cO, 1, .inr (.inl (fo))))] : va_W) ++ kW qK cB cD cR x ds) H := hP.left
  have hDc : va_D (fun q : Nat => s.heap.size ≤ q) (([(qo, .inl (cO, 1, .inr (.inl (fo))))] : va_W) ++ kW qK cB cD cR x ds) := hD.left
  have hKc : va_K (dC, dI) vwCl [(cO, .long), (cB, .byte), (cD, .object R_D), (cR, .object R_V)] s := hK.sub [0, 1, 2, 3] rfl
  have hFc : ∀ q : Nat, va_A (([(qo, .inl (cO, 1, .inr (.inl (fo))))] : va_W) ++ kW qK cB cD cR x ds) H.size q → (fun q : Nat => s.heap.size ≤ q) q := fr_free hD hS hA (List.Perm.refl _)
  have hS0 := hS
  refine va_calli (va_runSW (As := [.ref qK, .int (xs (Int32.toNatClampNeg (nI (i + 1)))), .int (xs (Int32.toNatClampNeg (nI (i + 2)))), .int (xs (Int32.toNatClampNeg (nI (i + 3)))), .ref qo]) (rest := []) ⟨hx, hb, hml, hown, hw0⟩ (w_revision l hl9 dC dI H.size qK qo cB cD cR cO fo x ds σ (xs (Int32.toNatClampNeg (nI (i + 1)))) (xs (Int32.toNatClampNeg (nI (i + 2)))) (xs (Int32.toNatClampNeg (nI (i + 3)))) hsg hk) (csw_of 5 hw0 660 661 662 588 rfl rfl rfl rfl rfl rfl (by decide +kernel) ⟨by decide +kernel, by decide +kernel⟩) (prS_TN hPc hKc hDc hN hTw hnc (fun a ha => hS.2.1 a ha (Nat.not_le.mpr ha))) rfl rfl hl.1 rfl (lv_room (Nat.le_of_ble_eq_true rfl)) d_L_law_532 ⟨hcc, hss⟩) hS (fun q _ h => hFc q h) hFc (fun r u t H1 locs ht hvm hw hB hz1 hk1 hS => ?_)
  obtain ⟨fo2, x2, ds2, ⟨hk2, hout⟩, hP1, hK1, hD1⟩ := hB
  rw [ht] at hP1
  obtain ⟨hP, hD⟩ := fr_wld (W2 := ((([(qo, .inl (cO, 1, .inr (.inl (fo2))))] : va_W) ++ kW qK cB cD cR x2 ds2) ++ mW qM cB2 cI cL cZ y)) (A := (fun q : Nat => s.heap.size ≤ q)) (fun q hq => hA q (Nat.le_trans hS0.1 hq)) hP hD (List.Perm.refl _) hk1 hP1 hD1 (kz (List.Perm.refl _))
  clear hPc hDc hKc hFc hP1 hD1 hK1 hk1 hS0
  generalize H1 = H at hP hS ⊢
  refine lv_istore (lv' := [(5, .int r), (4, .int (nI i)), (3, .ref qo), (2, .ref qM), (1, .ref qK), (0, .ref b)]) hx hb d_L_law_535 hl (by decide) rfl (fun ls hl => ?_)
  refine lv_aload_n hx hb d_L_law_537 rfl (lv_at hl 3 rfl) ?_
  refine lv_aload_n hx hb d_L_law_538 rfl (lv_at hl 5 rfl) ?_
  refine lv_iload hx hb d_L_law_539 (lv_at hl 1 rfl) ?_
  refine lv_iconst (v := 1) hx hb d_L_law_541 (by decide) ?_
  refine lv_iadd hx hb d_L_law_542 ?_
  refine lv_topi (fun x_4 ex_4 => ?_)
  obtain rfl : x_4 = nI (i + 1) := ex_4.trans (nI_add i 1)
  refine va_sld hx hb hX hbl hbA hS (x_inK (Nat.le_refl L) (by omega) (nI_pos (by omega)) (nI_ge (by omega) (by omega))) d_L_law_543 ?_
  refine lv_aload_n hx hb d_L_law_544 rfl (lv_at hl 5 rfl) ?_
  refine lv_iload hx hb d_L_law_545 (lv_at hl 1 rfl) ?_
  refine lv_iconst (v := 2) hx hb d_L_law_547 (by decide) ?_
  refine lv_iadd hx hb d_L_law_548 ?_
  refine lv_topi (fun x_5 ex_5 => ?_)
  obtain rfl : x_5 = nI (i + 2) := ex_5.trans (nI_add i 2)
  refine va_sld hx hb hX hbl hbA hS (x_inK (Nat.le_refl L) (by omega) (nI_pos (by omega)) (nI_ge (by omega) (by omega))) d_L_law_549 ?_
  refine lv_aload_n hx hb d_L_law_550 rfl (lv_at hl 5 rfl) ?_
  refine lv_iload hx hb d_L_law_551 (lv_at hl 1 rfl) ?_
  refine lv_iconst (v := 3) hx hb d_L_law_553 (by decide) ?_
  refine lv_iadd hx hb d_L_law_554 ?_
  refine lv_topi (fun x_6 ex_6 => ?_)
  obtain rfl : x_6 = nI (i + 3) := ex_6.trans (nI_add i 3)
  refine va_sld hx hb hX hbl hbA hS (x_inK (Nat.le_refl L) (by omega) (nI_pos (by omega)) (nI_ge (by omega) (by omega))) d_L_law_555 ?_
  have hPc : va_P (dC, dI) vwCl (mW qM cB2 cI cL cZ y) H := (hP.perm List.perm_append_comm).left
  have hDc : va_D (fun q : Nat => s.heap.size ≤ q) (mW qM cB2 cI cL cZ y) := (hD.perm List.perm_append_comm).left
  have hKc : va_K (dC, dI) vwCl (mT cB2 cI cL cZ) s := hK.sub [4, 5, 6, 7] rfl
  have hFc : ∀ q : Nat, va_A (mW qM cB2 cI cL cZ y) H.size q → (fun q : Nat => s.heap.size ≤ q) q := fr_free hD hS hA List.perm_append_comm
  have hS0 := hS
  refine va_calli (va_runV (As := [.int (xs (Int32.toNatClampNeg (nI (i + 1)))), .int (xs (Int32.toNatClampNeg (nI (i + 2)))), .int (xs (Int32.toNatClampNeg (nI (i + 3))))]) (rest := []) ⟨hx, hb, hml, hown, hw0⟩ (u_revision l dC dI H.size qM cB2 cI cL cZ y σ (xs (Int32.toNatClampNeg (nI (i + 1)))) (xs (Int32.toNatClampNeg (nI (i + 2)))) (xs (Int32.toNatClampNeg (nI (i + 3)))) hsg hm) (cwV 3 hw0 (gd_Vm wm_663 wm_664 wm_665 wm_243 wm_666) rfl rfl rfl (by decide +kernel) ⟨by decide +kernel, by decide +kernel⟩) (prV_E hPc hKc hDc hN (va_recv hKc hPc (ci := 7) (q0 := 0) rfl rfl)) rfl rfl hl.1 rfl (lv_room (Nat.le_of_ble_eq_true rfl)) d_L_law_556 ⟨hcc, hss⟩) hS (fun q _ h => hFc q h) hFc (fun r2 u t H1 locs ht hvm hw2 hB hz1 hk1 hS => ?_)
  obtain ⟨y2, hm2, hP1, hK1, hD1⟩ := hB
  rw [ht] at hP1
  obtain ⟨hP, hD⟩ := fr_wld (W2 := ((([(qo, .inl (cO, 1, .inr (.inl (fo2))))] : va_W) ++ kW qK cB cD cR x2 ds2) ++ mW qM cB2 cI cL cZ y2)) (A := (fun q : Nat => s.heap.size ≤ q)) (fun q hq => hA q (Nat.le_trans hS0.1 hq)) hP hD List.perm_append_comm hk1 hP1 hD1 (kz List.perm_append_comm)
  clear hPc hDc hKc hFc hP1 hD1 hK1 hk1 hS0
  generalize H1 = H at hP hS ⊢
  refine W.widen (k := c0 + 2) (n := s0 + 264) (Nat.le_refl _) (Nat.le_refl _) ?_
  refine lv_istore (lv' := [(6, .int r2), (5, .int r), (4, .int (nI i)), (3, .ref qo), (2, .ref qM), (1, .ref qK), (0, .ref b)]) hx hb d_L_law_559 hl (by decide) rfl (fun ls hl => ?_)
  refine lv_goto (tgt := 842) hx hb d_L_law_561 (by decide) ?_
  rw [st_rev] at hk2
  exact kk _ x2 ds2 y2 fo2 _ _ ls hsg hk2 hm2 hP hD hS (lv_sub hl [2, 3, 4, 5, 6] rfl)
set_option maxHeartbeats 4000000 in
set_option maxRecDepth 100000 in
theorem lw_c_11 {p : Program} {e : Env} {s : State} {m : MethodId} {below : List Frame} {meth : Method} {c : Code} (l : Launch) (hl9 : l.stackTraces = false) {b L : Nat} {xs : Nat → Int32} (hL : L ≤ 3072) (C0 : lw_At p s m meth c b L xs) {dC : Nat → ClassId} {dI : Nat → Nat → Nat} (qK qM qo : Nat) (cB cD cR cO cB2 cI cL cZ : ClassId) (fo : Nat → Int64) (x : KX) (ds : Nat → Option Dc) (y : MY) (σ : Sg) (i c0 s0 : Nat) (hi : i + 6 ≤ L) (hcc : c0 + 2 ≤ 601024) (hss : s0 + 264 ≤ 7293033) (hsg : sOk σ) (hk : kOk σ x ds) (hm : mOk σ y) (hN : nw_ok s) (hTw : tw_ok s) (hnc : nc_ok s) (hK : va_K (dC, dI) vwCl [(cO, .long), (cB, .byte), (cD, .object R_D), (cR, .object R_V), (cB2, .byte), (cI, .int), (cL, .short), (cZ, .boolean)] s) (H : Heap) (locs : List Loc) (hP : va_P (dC, dI) vwCl ((([(qo, .inl (cO, 1, .inr (.inl (fo))))] : va_W) ++ kW qK cB cD cR x ds) ++ mW qM cB2 cI cL cZ y) H) (hD : va_D (fun q : Nat => s.heap.size ≤ q) ((([(qo, .inl (cO, 1, .inr (.inl (fo))))] : va_W) ++ kW qK cB cD cR x ds) ++ mW qM cB2 cI cL cZ y)) (hS : va_S (fun q : Nat => s.heap.size ≤ q) s.heap H locs) (ls : Array Slot) (hl : lv_has ls 7 [(4, .int (nI i)), (3, .ref qo), (2, .ref qM), (1, .ref qK), (0, .ref b)]) (kk : ∀ (σ : Sg) (x : KX) (ds : Nat → Option Dc) (y : MY) (fo : Nat → Int64) (H : Heap) (locs : List Loc) (ls : Array Slot), sOk σ → kOk σ x ds → mOk σ y → va_P (dC, dI) vwCl ((([(qo, .inl (cO, 1, .inr (.inl (fo))))] : va_W) ++ kW qK cB cD cR x ds) ++ mW qM cB2 cI cL cZ y) H → va_D (fun q : Nat => s.heap.size ≤ q) ((([(qo, .inl (cO, 1, .inr (.inl (fo))))] : va_W) ++ kW qK cB cD cR x ds) ++ mW qM cB2 cI cL cZ y) → va_S (fun q : Nat => s.heap.size ≤ q) s.heap H locs → lv_has ls 7 [(4, .int (nI i)), (3, .ref qo), (2, .ref qM), (1, .ref qK), (0, .ref b)] → W p l e room_1 s m #[Value.ref b] below meth c H locs (c0 + 2) (s0 + 264) (lw_Z below #[Value.ref b] s) (F0 m 842 ls [])) : W p l e room_1 s m #[Value.ref b] below meth c H locs c0 s0 (lw_Z below #[Value.ref b] s) (F0 m 564 ls []) := by
  obtain ⟨hx, hb, hr, hml, hown, hts, hX, hbl, hlocks, hgv⟩ := id C0
  have hw0 : ∀ w ∈ w0, w.before #[Value.ref b] s = true := fun w h => hts w (w0_ok w h).1
  have hA : ∀ q : Nat, s.heap.size ≤ q → (fun q : Nat => s.heap.size ≤ q) q := fun _ h => h
  have hbA : ¬ (fun q : Nat => s.heap.size ≤ q) b := Nat.not_le.mpr hbl
  refine lv_aload_n hx hb d_L_law_564 rfl (lv_at hl 3 rfl) ?_
  refine lv_aload_n hx hb d_L_law_565 rfl (lv_at hl 4 rfl) ?_
  refine lv_iload hx hb d_L_law_566 (lv_at hl 0 rfl) ?_
  refine lv_iconst (v := 1) hx hb d_L_law_568 (by decide) ?_
  refine lv_iadd hx hb d_L_law_569 ?_
  refine lv_topi (fun x_1 ex_1 => ?_)
  obtain rfl : x_1 = nI (i + 1) := ex_1.trans (nI_add i 1)
  refine va_sld hx hb hX hbl hbA hS (x_inK (Nat.le_refl L) (by omega) (nI_pos (by omega)) (nI_ge (by omega) (by omega))) d_L_law_570 ?_
  refine lv_aload_n hx hb d_L_law_571 rfl (lv_at hl 4 rfl) ?_
  refine lv_iload hx hb d_L_law_572 (lv_at hl 0 rfl) ?_
  refine lv_iconst (v := 2) hx hb d_L_law_574 (by decide) ?_
  refine lv_iadd hx hb d_L_law_575 ?_
  refine lv_topi (fun x_2 ex_2 => ?_)
  obtain rfl : x_2 = nI (i + 2) := ex_2.trans (nI_add i 2)
  refine va_sld hx hb hX hbl hbA hS (x_inK (Nat.le_refl L) (by omega) (nI_pos (by omega)) (nI_ge (by omega) (by omega))) d_L_law_576 ?_
  refine lv_aload_n hx hb d_L_law_577 rfl (lv_at hl 4 rfl) ?_
  refine lv_iload hx hb d_L_law_578 (lv_at hl 0 rfl) ?_
  refine lv_iconst (v := 3) hx hb d_L_law_580 (by decide) ?_
  refine lv_iadd hx hb d_L_law_581 ?_
  refine lv_topi (fun x_3 ex_3 => ?_)
  obtain rfl : x_3 = nI (i + 3) := ex_3.trans (nI_add i 3)
  refine va_sld hx hb hX hbl hbA hS (x_inK (Nat.le_refl L) (by omega) (nI_pos (by omega)) (nI_ge (by omega) (by omega))) d_L_law_582 ?_
  refine lv_aload_n hx hb d_L_law_583 rfl (lv_at hl 1 rfl) ?_
  have hPc : va_P (dC, dI) vwCl (([(qo, .inl (cO, 1, .inr (.inl (fo))))] : va_W) ++ kW qK cB cD cR x ds) H := hP.left
  have hDc : va_D (fun q : Nat => s.heap.size ≤ q) (([(qo, .inl (cO, 1, .inr (.inl (fo))))] : va_W) ++ kW qK cB cD cR x ds) := hD.left
  have hKc : va_K (dC, dI) vwCl [(cO, .long), (cB, .byte), (cD, .object R_D), (cR, .object R_V)] s := hK.sub [0, 1, 2, 3] rfl
  have hFc : ∀ q : Nat, va_A (([(qo, .inl (cO, 1, .inr (.inl (fo))))] : va_W) ++ kW qK cB cD cR x ds) H.size q → (fun q : Nat => s.heap.size ≤ q) q := fr_free hD hS hA (List.Perm.refl _)
  have hS0 := hS
  refine va_calli (va_runSW (As := [.ref qK, .int (xs (Int32.toNatClampNeg (nI (i + 1)))), .int (xs (Int32.toNatClampNeg (nI (i + 2)))), .int (xs (Int32.toNatClampNeg (nI (i + 3)))), .ref qo]) (rest := []) ⟨hx, hb, hml, hown, hw0⟩ (w_pieceByte l hl9 dC dI H.size qK qo cB cD cR cO fo x ds σ (xs (Int32.toNatClampNeg (nI (i + 1)))) (xs (Int32.toNatClampNeg (nI (i + 2)))) (xs (Int32.toNatClampNeg (nI (i + 3)))) hsg hk) (csw_of 5 hw0 667 668 669 588 rfl rfl rfl rfl rfl rfl (by decide +kernel) ⟨by decide +kernel, by decide +kernel⟩) (prS_T hPc hKc hDc hN hTw (fun a ha => hS.2.1 a ha (Nat.not_le.mpr ha))) rfl rfl hl.1 rfl (lv_room (Nat.le_of_ble_eq_true rfl)) d_L_law_584 ⟨hcc, hss⟩) hS (fun q _ h => hFc q h) hFc (fun r u t H1 locs ht hvm hw hB hz1 hk1 hS => ?_)
  obtain ⟨fo2, x2, ds2, ⟨hk2, hout⟩, hP1, hK1, hD1⟩ := hB
  rw [ht] at hP1
  obtain ⟨hP, hD⟩ := fr_wld (W2 := ((([(qo, .inl (cO, 1, .inr (.inl (fo2))))] : va_W) ++ kW qK cB cD cR x2 ds2) ++ mW qM cB2 cI cL cZ y)) (A := (fun q : Nat => s.heap.size ≤ q)) (fun q hq => hA q (Nat.le_trans hS0.1 hq)) hP hD (List.Perm.refl _) hk1 hP1 hD1 (kz (List.Perm.refl _))
  clear hPc hDc hKc hFc hP1 hD1 hK1 hk1 hS0
  generalize H1 = H at hP hS ⊢
  refine lv_istore (lv' := [(5, .int r), (4, .int (nI i)), (3, .ref qo), (2, .ref qM), (1, .ref qK), (0, .ref b)]) hx hb d_L_law_587 hl (by decide) rfl (fun ls hl => ?_)
  refine lv_aload_n hx hb d_L_law_589 rfl (lv_at hl 3 rfl) ?_
  refine lv_aload_n hx hb d_L_law_590 rfl (lv_at hl 5 rfl) ?_
  refine lv_iload hx hb d_L_law_591 (lv_at hl 1 rfl) ?_
  refine lv_iconst (v := 1) hx hb d_L_law_593 (by decide) ?_
  refine lv_iadd hx hb d_L_law_594 ?_
  refine lv_topi (fun x_4 ex_4 => ?_)
  obtain rfl : x_4 = nI (i + 1) := ex_4.trans (nI_add i 1)
  refine va_sld hx hb hX hbl hbA hS (x_inK (Nat.le_refl L) (by omega) (nI_pos (by omega)) (nI_ge (by omega) (by omega))) d_L_law_595 ?_
  refine lv_aload_n hx hb d_L_law_596 rfl (lv_at hl 5 rfl) ?_
  refine lv_iload hx hb d_L_law_597 (lv_at hl 1 rfl) ?_
  refine lv_iconst (v := 2) hx hb d_L_law_599 (by decide) ?_
  refine lv_iadd hx hb d_L_law_600 ?_
  refine lv_topi (fun x_5 ex_5 => ?_)
  obtain rfl : x_5 = nI (i + 2) := ex_5.trans (nI_add i 2)
  refine va_sld hx hb hX hbl hbA hS (x_inK (Nat.le_refl L) (by omega) (nI_pos (by omega)) (nI_ge (by omega) (by omega))) d_L_law_601 ?_
  refine lv_aload_n hx hb d_L_law_602 rfl (lv_at hl 5 rfl) ?_
  refine lv_iload hx hb d_L_law_603 (lv_at hl 1 rfl) ?_
  refine lv_iconst (v := 3) hx hb d_L_law_605 (by decide) ?_
  refine lv_iadd hx hb d_L_law_606 ?_
  refine lv_topi (fun x_6 ex_6 => ?_)
  obtain rfl : x_6 = nI (i + 3) := ex_6.trans (nI_add i 3)
  refine va_sld hx hb hX hbl hbA hS (x_inK (Nat.le_refl L) (by omega) (nI_pos (by omega)) (nI_ge (by omega) (by omega))) d_L_law_607 ?_
  have hPc : va_P (dC, dI) vwCl (mW qM cB2 cI cL cZ y) H := (hP.perm List.perm_append_comm).left
  have hDc : va_D (fun q : Nat => s.heap.size ≤ q) (mW qM cB2 cI cL cZ y) := (hD.perm List.perm_append_comm).left
  have hKc : va_K (dC, dI) vwCl (mT cB2 cI cL cZ) s := hK.sub [4, 5, 6, 7] rfl
  have hFc : ∀ q : Nat, va_A (mW qM cB2 cI cL cZ y) H.size q → (fun q : Nat => s.heap.size ≤ q) q := fr_free hD hS hA List.perm_append_comm
  have hS0 := hS
  refine va_calli (va_runV (As := [.int (xs (Int32.toNatClampNeg (nI (i + 1)))), .int (xs (Int32.toNatClampNeg (nI (i + 2)))), .int (xs (Int32.toNatClampNeg (nI (i + 3))))]) (rest := []) ⟨hx, hb, hml, hown, hw0⟩ (u_pieceByte l dC dI H.size qM cB2 cI cL cZ y σ (xs (Int32.toNatClampNeg (nI (i + 1)))) (xs (Int32.toNatClampNeg (nI (i + 2)))) (xs (Int32.toNatClampNeg (nI (i + 3)))) hsg hm) (cwV 3 hw0 (gd_Vm wm_670 wm_671 wm_672 wm_243 wm_673) rfl rfl rfl (by decide +kernel) ⟨by decide +kernel, by decide +kernel⟩) (prV_E hPc hKc hDc hN (va_recv hKc hPc (ci := 7) (q0 := 0) rfl rfl)) rfl rfl hl.1 rfl (lv_room (Nat.le_of_ble_eq_true rfl)) d_L_law_608 ⟨hcc, hss⟩) hS (fun q _ h => hFc q h) hFc (fun r2 u t H1 locs ht hvm hw2 hB hz1 hk1 hS => ?_)
  obtain ⟨y2, ⟨hm2, hth⟩, hP1, hK1, hD1⟩ := hB
  rw [ht] at hP1
  obtain ⟨hP, hD⟩ := fr_wld (W2 := ((([(qo, .inl (cO, 1, .inr (.inl (fo2))))] : va_W) ++ kW qK cB cD cR x2 ds2) ++ mW qM cB2 cI cL cZ y2)) (A := (fun q : Nat => s.heap.size ≤ q)) (fun q hq => hA q (Nat.le_trans hS0.1 hq)) hP hD List.perm_append_comm hk1 hP1 hD1 (kz List.perm_append_comm)
  clear hPc hDc hKc hFc hP1 hD1 hK1 hk1 hS0
  generalize H1 = H at hP hS ⊢
  refine W.widen (k := c0 + 2) (n := s0 + 264) (Nat.le_refl _) (Nat.le_refl _) ?_
  refine lv_istore (lv' := [(6, .int r2), (5, .int r), (4, .int (nI i)), (3, .ref qo), (2, .ref qM), (1, .ref qK), (0, .ref b)]) hx hb d_L_law_611 hl (by decide) rfl (fun ls hl => ?_)
  refine lv_goto (tgt := 842) hx hb d_L_law_613 (by decide) ?_
  rw [st_byte] at hk2 hm2
  exact kk _ x2 ds2 y2 fo2 _ _ ls hsg hk2 hm2 hP hD hS (lv_sub hl [2, 3, 4, 5, 6] rfl)
end
section
set_option maxHeartbeats 4000000 in
set_option maxRecDepth 100000 in
theorem lw_c_12 {p : Program} {e : Env} {s : State} {m : MethodId} {below : List Frame} {meth : Method} {c : Code} (l : Launch) (hl9 : l.stackTraces = false) {b L : Nat} {xs : Nat → Int32} (hL : L ≤ 3072) (C0 : lw_At p s m meth c b L xs) {dC : Nat → ClassId} {dI : Nat → Nat → Nat} (qK qM qo : Nat) (cB cD cR cO cB2 cI cL cZ : ClassId) (fo : Nat → Int64) (x : KX) (ds : Nat → Option Dc) (y : MY) (σ : Sg) (i c0 s0 : Nat) (hi : i + 6 ≤ L) (hcc : c0 + 2 ≤ 601024) (hss : s0 + 264 ≤ 7293033) (hsg : sOk σ) (hk : kOk σ x ds) (hm : mOk σ y) (hN : nw_ok s) (hTw : tw_ok s) (hnc : nc_ok s) (hK : va_K (dC, dI) vwCl [(cO, .long), (cB, .byte), (cD, .object R_D), (cR, .object R_V), (cB2, .byte), (cI, .int), (cL, .short), (cZ, .boolean)] s) (H : Heap) (locs : List Loc) (hP : va_P (dC, dI) vwCl ((([(qo, .inl (cO, 1, .inr (.inl (fo))))] : va_W) ++ kW qK cB cD cR x ds) ++ mW qM cB2 cI cL cZ y) H) (hD : va_D (fun q : Nat => s.heap.size ≤ q) ((([(qo, .inl (cO, 1, .inr (.inl (fo))))] : va_W) ++ kW qK cB cD cR x ds) ++ mW qM cB2 cI cL cZ y)) (hS : va_S (fun q : Nat => s.heap.size ≤ q) s.heap H locs) (ls : Array Slot) (hl : lv_has ls 7 [(4, .int (nI i)), (3, .ref qo), (2, .ref qM), (1, .ref qK), (0, .ref b)]) (kk : ∀ (σ : Sg) (x : KX) (ds : Nat → Option Dc) (y : MY) (fo : Nat → Int64) (H : Heap) (locs : List Loc) (ls : Array Slot), sOk σ → kOk σ x ds → mOk σ y → va_P (dC, dI) vwCl ((([(qo, .inl (cO, 1, .inr (.inl (fo))))] : va_W) ++ kW qK cB cD cR x ds) ++ mW qM cB2 cI cL cZ y) H → va_D (fun q : Nat => s.heap.size ≤ q) ((([(qo, .inl (cO, 1, .inr (.inl (fo))))] : va_W) ++ kW qK cB cD cR x ds) ++ mW qM cB2 cI cL cZ y) → va_S (fun q : Nat => s.heap.size ≤ q) s.heap H locs → lv_has ls 7 [(4, .int (nI i)), (3, .ref qo), (2, .ref qM), (1, .ref qK), (0, .ref b)] → W p l e room_1 s m #[Value.ref b] below meth c H locs (c0 + 2) (s0 + 264) (lw_Z below #[Value.ref b] s) (F0 m 842 ls [])) : W p l e room_1 s m #[Value.ref b] below meth c H locs c0 s0 (lw_Z below #[Value.ref b] s) (F0 m 616 ls []) := by
  obtain ⟨hx, hb, hr, hml, hown, hts, hX, hbl, hlocks, hgv⟩ := id C0
  have hw0 : ∀ w ∈ w0, w.before #[Value.ref b] s = true := fun w h => hts w (w0_ok w h).1
  have hA : ∀ q : Nat, s.heap.size ≤ q → (fun q : Nat => s.heap.size ≤ q) q := fun _ h => h
  have hbA : ¬ (fun q : Nat => s.heap.size ≤ q) b := Nat.not_le.mpr hbl
  refine lv_aload_n hx hb d_L_law_616 rfl (lv_at hl 3 rfl) ?_
  refine lv_aload_n hx hb d_L_law_617 rfl (lv_at hl 4 rfl) ?_
  refine lv_iload hx hb d_L_law_618 (lv_at hl 0 rfl) ?_
  refine lv_iconst (v := 1) hx hb d_L_law_620 (by decide) ?_
  refine lv_iadd hx hb d_L_law_621 ?_
  refine lv_topi (fun x_1 ex_1 => ?_)
  obtain rfl : x_1 = nI (i + 1) := ex_1.trans (nI_add i 1)
  refine va_sld hx hb hX hbl hbA hS (x_inK (Nat.le_refl L) (by omega) (nI_pos (by omega)) (nI_ge (by omega) (by omega))) d_L_law_622 ?_
  refine lv_aload_n hx hb d_L_law_623 rfl (lv_at hl 4 rfl) ?_
  refine lv_iload hx hb d_L_law_624 (lv_at hl 0 rfl) ?_
  refine lv_iconst (v := 2) hx hb d_L_law_626 (by decide) ?_
  refine lv_iadd hx hb d_L_law_627 ?_
  refine lv_topi (fun x_2 ex_2 => ?_)
  obtain rfl : x_2 = nI (i + 2) := ex_2.trans (nI_add i 2)
  refine va_sld hx hb hX hbl hbA hS (x_inK (Nat.le_refl L) (by omega) (nI_pos (by omega)) (nI_ge (by omega) (by omega))) d_L_law_628 ?_
  refine lv_aload_n hx hb d_L_law_629 rfl (lv_at hl 4 rfl) ?_
  refine lv_iload hx hb d_L_law_630 (lv_at hl 0 rfl) ?_
  refine lv_iconst (v := 3) hx hb d_L_law_632 (by decide) ?_
  refine lv_iadd hx hb d_L_law_633 ?_
  refine lv_topi (fun x_3 ex_3 => ?_)
  obtain rfl : x_3 = nI (i + 3) := ex_3.trans (nI_add i 3)
  refine va_sld hx hb hX hbl hbA hS (x_inK (Nat.le_refl L) (by omega) (nI_pos (by omega)) (nI_ge (by omega) (by omega))) d_L_law_634 ?_
  refine lv_aload_n hx hb d_L_law_635 rfl (lv_at hl 4 rfl) ?_
  refine lv_iload hx hb d_L_law_636 (lv_at hl 0 rfl) ?_
  refine lv_iconst (v := 4) hx hb d_L_law_638 (by decide) ?_
  refine lv_iadd hx hb d_L_law_639 ?_
  refine lv_topi (fun x_4 ex_4 => ?_)
  obtain rfl : x_4 = nI (i + 4) := ex_4.trans (nI_add i 4)
  refine va_sld hx hb hX hbl hbA hS (x_inK (Nat.le_refl L) (by omega) (nI_pos (by omega)) (nI_ge (by omega) (by omega))) d_L_law_640 ?_
  refine lv_aload_n hx hb d_L_law_641 rfl (lv_at hl 1 rfl) ?_
  have hPc : va_P (dC, dI) vwCl (([(qo, .inl (cO, 1, .inr (.inl (fo))))] : va_W) ++ kW qK cB cD cR x ds) H := hP.left
  have hDc : va_D (fun q : Nat => s.heap.size ≤ q) (([(qo, .inl (cO, 1, .inr (.inl (fo))))] : va_W) ++ kW qK cB cD cR x ds) := hD.left
  have hKc : va_K (dC, dI) vwCl [(cO, .long), (cB, .byte), (cD, .object R_D), (cR, .object R_V)] s := hK.sub [0, 1, 2, 3] rfl
  have hFc : ∀ q : Nat, va_A (([(qo, .inl (cO, 1, .inr (.inl (fo))))] : va_W) ++ kW qK cB cD cR x ds) H.size q → (fun q : Nat => s.heap.size ≤ q) q := fr_free hD hS hA (List.Perm.refl _)
  have hS0 := hS
  refine va_calli (va_runSW (As := [.ref qK, .int (xs (Int32.toNatClampNeg (nI (i + 1)))), .int (xs (Int32.toNatClampNeg (nI (i + 2)))), .int (xs (Int32.toNatClampNeg (nI (i + 3)))), .int (xs (Int32.toNatClampNeg (nI (i + 4)))), .ref qo]) (rest := []) ⟨hx, hb, hml, hown, hw0⟩ (w_damage l hl9 dC dI H.size qK qo cB cD cR cO fo x ds σ (xs (Int32.toNatClampNeg (nI (i + 1)))) (xs (Int32.toNatClampNeg (nI (i + 2)))) (xs (Int32.toNatClampNeg (nI (i + 3)))) (xs (Int32.toNatClampNeg (nI (i + 4)))) hsg hk) (csw_of 6 hw0 674 675 676 588 rfl rfl rfl rfl rfl rfl (by decide +kernel) ⟨by decide +kernel, by decide +kernel⟩) (prS_T hPc hKc hDc hN hTw (fun a ha => hS.2.1 a ha (Nat.not_le.mpr ha))) rfl rfl hl.1 rfl (lv_room (Nat.le_of_ble_eq_true rfl)) d_L_law_642 ⟨hcc, hss⟩) hS (fun q _ h => hFc q h) hFc (fun r u t H1 locs ht hvm hw hB hz1 hk1 hS => ?_)
  obtain ⟨fo2, x2, ds2, ⟨hk2, hout⟩, hP1, hK1, hD1⟩ := hB
  rw [ht] at hP1
  obtain ⟨hP, hD⟩ := fr_wld (W2 := ((([(qo, .inl (cO, 1, .inr (.inl (fo2))))] : va_W) ++ kW qK cB cD cR x2 ds2) ++ mW qM cB2 cI cL cZ y)) (A := (fun q : Nat => s.heap.size ≤ q)) (fun q hq => hA q (Nat.le_trans hS0.1 hq)) hP hD (List.Perm.refl _) hk1 hP1 hD1 (kz (List.Perm.refl _))
  clear hPc hDc hKc hFc hP1 hD1 hK1 hk1 hS0
  generalize H1 = H at hP hS ⊢
  refine lv_istore (lv' := [(5, .int r), (4, .int (nI i)), (3, .ref qo), (2, .ref qM), (1, .ref qK), (0, .ref b)]) hx hb d_L_law_645 hl (by decide) rfl (fun ls hl => ?_)
  refine lv_aload_n hx hb d_L_law_647 rfl (lv_at hl 3 rfl) ?_
  refine lv_aload_n hx hb d_L_law_648 rfl (lv_at hl 5 rfl) ?_
  refine lv_iload hx hb d_L_law_649 (lv_at hl 1 rfl) ?_
  refine lv_iconst (v := 1) hx hb d_L_law_651 (by decide) ?_
  refine lv_iadd hx hb d_L_law_652 ?_
  refine lv_topi (fun x_5 ex_5 => ?_)
  obtain rfl : x_5 = nI (i + 1) := ex_5.trans (nI_add i 1)
  refine va_sld hx hb hX hbl hbA hS (x_inK (Nat.le_refl L) (by omega) (nI_pos (by omega)) (nI_ge (by omega) (by omega))) d_L_law_653 ?_
  refine lv_aload_n hx hb d_L_law_654 rfl (lv_at hl 5 rfl) ?_
  refine lv_iload hx hb d_L_law_655 (lv_at hl 1 rfl) ?_
  refine lv_iconst (v := 2) hx hb d_L_law_657 (by decide) ?_
  refine lv_iadd hx hb d_L_law_658 ?_
  refine lv_topi (fun x_6 ex_6 => ?_)
  obtain rfl : x_6 = nI (i + 2) := ex_6.trans (nI_add i 2)
  refine va_sld hx hb hX hbl hbA hS (x_inK (Nat.le_refl L) (by omega) (nI_pos (by omega)) (nI_ge (by omega) (by omega))) d_L_law_659 ?_
  refine lv_aload_n hx hb d_L_law_660 rfl (lv_at hl 5 rfl) ?_
  refine lv_iload hx hb d_L_law_661 (lv_at hl 1 rfl) ?_
  refine lv_iconst (v := 3) hx hb d_L_law_663 (by decide) ?_
  refine lv_iadd hx hb d_L_law_664 ?_
  refine lv_topi (fun x_7 ex_7 => ?_)
  obtain rfl : x_7 = nI (i + 3) := ex_7.trans (nI_add i 3)
  refine va_sld hx hb hX hbl hbA hS (x_inK (Nat.le_refl L) (by omega) (nI_pos (by omega)) (nI_ge (by omega) (by omega))) d_L_law_665 ?_
  refine lv_aload_n hx hb d_L_law_666 rfl (lv_at hl 5 rfl) ?_
  refine lv_iload hx hb d_L_law_667 (lv_at hl 1 rfl) ?_
  refine lv_iconst (v := 4) hx hb d_L_law_669 (by decide) ?_
  refine lv_iadd hx hb d_L_law_670 ?_
  refine lv_topi (fun x_8 ex_8 => ?_)
  obtain rfl : x_8 = nI (i + 4) := ex_8.trans (nI_add i 4)
  refine va_sld hx hb hX hbl hbA hS (x_inK (Nat.le_refl L) (by omega) (nI_pos (by omega)) (nI_ge (by omega) (by omega))) d_L_law_671 ?_
  have hPc : va_P (dC, dI) vwCl (mW qM cB2 cI cL cZ y) H := (hP.perm List.perm_append_comm).left
  have hDc : va_D (fun q : Nat => s.heap.size ≤ q) (mW qM cB2 cI cL cZ y) := (hD.perm List.perm_append_comm).left
  have hKc : va_K (dC, dI) vwCl (mT cB2 cI cL cZ) s := hK.sub [4, 5, 6, 7] rfl
  have hFc : ∀ q : Nat, va_A (mW qM cB2 cI cL cZ y) H.size q → (fun q : Nat => s.heap.size ≤ q) q := fr_free hD hS hA List.perm_append_comm
  have hS0 := hS
  refine va_calli (va_runV (As := [.int (xs (Int32.toNatClampNeg (nI (i + 1)))), .int (xs (Int32.toNatClampNeg (nI (i + 2)))), .int (xs (Int32.toNatClampNeg (nI (i + 3)))), .int (xs (Int32.toNatClampNeg (nI (i + 4))))]) (rest := []) ⟨hx, hb, hml, hown, hw0⟩ (u_damage l dC dI H.size qM cB2 cI cL cZ y σ (xs (Int32.toNatClampNeg (nI (i + 1)))) (xs (Int32.toNatClampNeg (nI (i + 2)))) (xs (Int32.toNatClampNeg (nI (i + 3)))) (xs (Int32.toNatClampNeg (nI (i + 4)))) hsg hm) (cwV 4 hw0 (gd_Vm wm_677 wm_678 wm_679 wm_243 wm_680) rfl rfl rfl (by decide +kernel) ⟨by decide +kernel, by decide +kernel⟩) (prV_E hPc hKc hDc hN (va_recv hKc hPc (ci := 7) (q0 := 0) rfl rfl)) rfl rfl hl.1 rfl (lv_room (Nat.le_of_ble_eq_true rfl)) d_L_law_672 ⟨hcc, hss⟩) hS (fun q _ h => hFc q h) hFc (fun r2 u t H1 locs ht hvm hw2 hB hz1 hk1 hS => ?_)
  obtain ⟨y2, ⟨hm2, hth⟩, hP1, hK1, hD1⟩ := hB
  rw [ht] at hP1
  obtain ⟨hP, hD⟩ := fr_wld (W2 := ((([(qo, .inl (cO, 1, .inr (.inl (fo2))))] : va_W) ++ kW qK cB cD cR x2 ds2) ++ mW qM cB2 cI cL cZ y2)) (A := (fun q : Nat => s.heap.size ≤ q)) (fun q hq => hA q (Nat.le_trans hS0.1 hq)) hP hD List.perm_append_comm hk1 hP1 hD1 (kz List.perm_append_comm)
  clear hPc hDc hKc hFc hP1 hD1 hK1 hk1 hS0
  generalize H1 = H at hP hS ⊢
  refine W.widen (k := c0 + 2) (n := s0 + 264) (Nat.le_refl _) (Nat.le_refl _) ?_
  refine lv_istore (lv' := [(6, .int r2), (5, .int r), (4, .int (nI i)), (3, .ref qo), (2, .ref qM), (1, .ref qK), (0, .ref b)]) hx hb d_L_law_675 hl (by decide) rfl (fun ls hl => ?_)
  refine lv_goto (tgt := 842) hx hb d_L_law_677 (by decide) ?_
  exact kk _ x2 ds2 y2 fo2 _ _ ls (sOk_of (sW_damage (sW_of hsg)) hk2) hk2 hm2 hP hD hS (lv_sub hl [2, 3, 4, 5, 6] rfl)
set_option maxHeartbeats 4000000 in
set_option maxRecDepth 100000 in
theorem lw_c_13 {p : Program} {e : Env} {s : State} {m : MethodId} {below : List Frame} {meth : Method} {c : Code} (l : Launch) (hl9 : l.stackTraces = false) {b L : Nat} {xs : Nat → Int32} (hL : L ≤ 3072) (C0 : lw_At p s m meth c b L xs) {dC : Nat → ClassId} {dI : Nat → Nat → Nat} (qK qM qo : Nat) (cB cD cR cO cB2 cI cL cZ : ClassId) (fo : Nat → Int64) (x : KX) (ds : Nat → Option Dc) (y : MY) (σ : Sg) (i c0 s0 : Nat) (hi : i + 6 ≤ L) (hcc : c0 + 2 ≤ 601024) (hss : s0 + 264 ≤ 7293033) (hsg : sOk σ) (hk : kOk σ x ds) (hm : mOk σ y) (hN : nw_ok s) (hTw : tw_ok s) (hnc : nc_ok s) (hK : va_K (dC, dI) vwCl [(cO, .long), (cB, .byte), (cD, .object R_D), (cR, .object R_V), (cB2, .byte), (cI, .int), (cL, .short), (cZ, .boolean)] s) (H : Heap) (locs : List Loc) (hP : va_P (dC, dI) vwCl ((([(qo, .inl (cO, 1, .inr (.inl (fo))))] : va_W) ++ kW qK cB cD cR x ds) ++ mW qM cB2 cI cL cZ y) H) (hD : va_D (fun q : Nat => s.heap.size ≤ q) ((([(qo, .inl (cO, 1, .inr (.inl (fo))))] : va_W) ++ kW qK cB cD cR x ds) ++ mW qM cB2 cI cL cZ y)) (hS : va_S (fun q : Nat => s.heap.size ≤ q) s.heap H locs) (ls : Array Slot) (hl : lv_has ls 7 [(4, .int (nI i)), (3, .ref qo), (2, .ref qM), (1, .ref qK), (0, .ref b)]) (kk : ∀ (σ : Sg) (x : KX) (ds : Nat → Option Dc) (y : MY) (fo : Nat → Int64) (H : Heap) (locs : List Loc) (ls : Array Slot), sOk σ → kOk σ x ds → mOk σ y → va_P (dC, dI) vwCl ((([(qo, .inl (cO, 1, .inr (.inl (fo))))] : va_W) ++ kW qK cB cD cR x ds) ++ mW qM cB2 cI cL cZ y) H → va_D (fun q : Nat => s.heap.size ≤ q) ((([(qo, .inl (cO, 1, .inr (.inl (fo))))] : va_W) ++ kW qK cB cD cR x ds) ++ mW qM cB2 cI cL cZ y) → va_S (fun q : Nat => s.heap.size ≤ q) s.heap H locs → lv_has ls 7 [(4, .int (nI i)), (3, .ref qo), (2, .ref qM), (1, .ref qK), (0, .ref b)] → W p l e room_1 s m #[Value.ref b] below meth c H locs (c0 + 2) (s0 + 264) (lw_Z below #[Value.ref b] s) (F0 m 842 ls [])) : W p l e room_1 s m #[Value.ref b] below meth c H locs c0 s0 (lw_Z below #[Value.ref b] s) (F0 m 680 ls []) := by
  obtain ⟨hx, hb, hr, hml, hown, hts, hX, hbl, hlocks, hgv⟩ := id C0
  have hw0 : ∀ w ∈ w0, w.before #[Value.ref b] s = true := fun w h => hts w (w0_ok w h).1
  have hA : ∀ q : Nat, s.heap.size ≤ q → (fun q : Nat => s.heap.size ≤ q) q := fun _ h => h
  have hbA : ¬ (fun q : Nat => s.heap.size ≤ q) b := Nat.not_le.mpr hbl
  refine lv_aload_n hx hb d_L_law_680 rfl (lv_at hl 3 rfl) ?_
  refine lv_aload_n hx hb d_L_law_681 rfl (lv_at hl 4 rfl) ?_
  refine lv_iload hx hb d_L_law_682 (lv_at hl 0 rfl) ?_
  refine lv_iconst (v := 1) hx hb d_L_law_684 (by decide) ?_
  refine lv_iadd hx hb d_L_law_685 ?_
  refine lv_topi (fun x_1 ex_1 => ?_)
  obtain rfl : x_1 = nI (i + 1) := ex_1.trans (nI_add i 1)
  refine va_sld hx hb hX hbl hbA hS (x_inK (Nat.le_refl L) (by omega) (nI_pos (by omega)) (nI_ge (by omega) (by omega))) d_L_law_686 ?_
  refine lv_aload_n hx hb d_L_law_687 rfl (lv_at hl 1 rfl) ?_
  have hPc : va_P (dC, dI) vwCl (([(qo, .inl (cO, 1, .inr (.inl (fo))))] : va_W) ++ kW qK cB cD cR x ds) H := hP.left
  have hDc : va_D (fun q : Nat => s.heap.size ≤ q) (([(qo, .inl (cO, 1, .inr (.inl (fo))))] : va_W) ++ kW qK cB cD cR x ds) := hD.left
  have hKc : va_K (dC, dI) vwCl [(cO, .long), (cB, .byte), (cD, .object R_D), (cR, .object R_V)] s := hK.sub [0, 1, 2, 3] rfl
  have hFc : ∀ q : Nat, va_A (([(qo, .inl (cO, 1, .inr (.inl (fo))))] : va_W) ++ kW qK cB cD cR x ds) H.size q → (fun q : Nat => s.heap.size ≤ q) q := fr_free hD hS hA (List.Perm.refl _)
  have hS0 := hS
  refine va_calli (va_runSW (As := [.ref qK, .int (xs (Int32.toNatClampNeg (nI (i + 1)))), .ref qo]) (rest := []) ⟨hx, hb, hml, hown, hw0⟩ (w_verify l hl9 dC dI H.size qK qo cB cD cR cO fo x ds σ (xs (Int32.toNatClampNeg (nI (i + 1)))) hsg hk) (csw_of 3 hw0 681 682 683 588 rfl rfl rfl rfl rfl rfl (by decide +kernel) ⟨by decide +kernel, by decide +kernel⟩) (prS_T hPc hKc hDc hN hTw (fun a ha => hS.2.1 a ha (Nat.not_le.mpr ha))) rfl rfl hl.1 rfl (lv_room (Nat.le_of_ble_eq_true rfl)) d_L_law_688 ⟨hcc, hss⟩) hS (fun q _ h => hFc q h) hFc (fun r u t H1 locs ht hvm hw hB hz1 hk1 hS => ?_)
  obtain ⟨fo2, x2, ds2, ⟨hk2, hout⟩, hP1, hK1, hD1⟩ := hB
  rw [ht] at hP1
  obtain ⟨hP, hD⟩ := fr_wld (W2 := ((([(qo, .inl (cO, 1, .inr (.inl (fo2))))] : va_W) ++ kW qK cB cD cR x2 ds2) ++ mW qM cB2 cI cL cZ y)) (A := (fun q : Nat => s.heap.size ≤ q)) (fun q hq => hA q (Nat.le_trans hS0.1 hq)) hP hD (List.Perm.refl _) hk1 hP1 hD1 (kz (List.Perm.refl _))
  clear hPc hDc hKc hFc hP1 hD1 hK1 hk1 hS0
  generalize H1 = H at hP hS ⊢
  refine lv_istore (lv' := [(5, .int r), (4, .int (nI i)), (3, .ref qo), (2, .ref qM), (1, .ref qK), (0, .ref b)]) hx hb d_L_law_691 hl (by decide) rfl (fun ls hl => ?_)
  refine lv_aload_n hx hb d_L_law_693 rfl (lv_at hl 3 rfl) ?_
  refine lv_aload_n hx hb d_L_law_694 rfl (lv_at hl 5 rfl) ?_
  refine lv_iload hx hb d_L_law_695 (lv_at hl 1 rfl) ?_
  refine lv_iconst (v := 1) hx hb d_L_law_697 (by decide) ?_
  refine lv_iadd hx hb d_L_law_698 ?_
  refine lv_topi (fun x_2 ex_2 => ?_)
  obtain rfl : x_2 = nI (i + 1) := ex_2.trans (nI_add i 1)
  refine va_sld hx hb hX hbl hbA hS (x_inK (Nat.le_refl L) (by omega) (nI_pos (by omega)) (nI_ge (by omega) (by omega))) d_L_law_699 ?_
  have hPc : va_P (dC, dI) vwCl (mW qM cB2 cI cL cZ y) H := (hP.perm List.perm_append_comm).left
  have hDc : va_D (fun q : Nat => s.heap.size ≤ q) (mW qM cB2 cI cL cZ y) := (hD.perm List.perm_append_comm).left
  have hKc : va_K (dC, dI) vwCl (mT cB2 cI cL cZ) s := hK.sub [4, 5, 6, 7] rfl
  have hFc : ∀ q : Nat, va_A (mW qM cB2 cI cL cZ y) H.size q → (fun q : Nat => s.heap.size ≤ q) q := fr_free hD hS hA List.perm_append_comm
  have hS0 := hS
  refine va_calli (va_runV (As := [.int (xs (Int32.toNatClampNeg (nI (i + 1))))]) (rest := []) ⟨hx, hb, hml, hown, hw0⟩ (u_verify l dC dI H.size qM cB2 cI cL cZ y σ (xs (Int32.toNatClampNeg (nI (i + 1)))) hsg hm) (cwV 1 hw0 (gd_Vm wm_684 wm_685 wm_686 wm_243 wm_687) rfl rfl rfl (by decide +kernel) ⟨by decide +kernel, by decide +kernel⟩) (prV_E hPc hKc hDc hN (va_recv hKc hPc (ci := 7) (q0 := 0) rfl rfl)) rfl rfl hl.1 rfl (lv_room (Nat.le_of_ble_eq_true rfl)) d_L_law_700 ⟨hcc, hss⟩) hS (fun q _ h => hFc q h) hFc (fun r2 u t H1 locs ht hvm hw2 hB hz1 hk1 hS => ?_)
  obtain ⟨y2, ⟨hm2, hth⟩, hP1, hK1, hD1⟩ := hB
  rw [ht] at hP1
  obtain ⟨hP, hD⟩ := fr_wld (W2 := ((([(qo, .inl (cO, 1, .inr (.inl (fo2))))] : va_W) ++ kW qK cB cD cR x2 ds2) ++ mW qM cB2 cI cL cZ y2)) (A := (fun q : Nat => s.heap.size ≤ q)) (fun q hq => hA q (Nat.le_trans hS0.1 hq)) hP hD List.perm_append_comm hk1 hP1 hD1 (kz List.perm_append_comm)
  clear hPc hDc hKc hFc hP1 hD1 hK1 hk1 hS0
  generalize H1 = H at hP hS ⊢
  refine W.widen (k := c0 + 2) (n := s0 + 264) (Nat.le_refl _) (Nat.le_refl _) ?_
  refine lv_istore (lv' := [(6, .int r2), (5, .int r), (4, .int (nI i)), (3, .ref qo), (2, .ref qM), (1, .ref qK), (0, .ref b)]) hx hb d_L_law_703 hl (by decide) rfl (fun ls hl => ?_)
  refine lv_goto (tgt := 842) hx hb d_L_law_705 (by decide) ?_
  rw [st_verify] at hk2 hm2
  exact kk _ x2 ds2 y2 fo2 _ _ ls hsg hk2 hm2 hP hD hS (lv_sub hl [2, 3, 4, 5, 6] rfl)
set_option maxHeartbeats 4000000 in
set_option maxRecDepth 100000 in
theorem lw_c_14 {p : Program} {e : Env} {s : State} {m : MethodId} {below : List Frame} {meth : Method} {c : Code} (l : Launch) (hl9 : l.stackTraces = false) {b L : Nat} {xs : Nat → Int32} (hL : L ≤ 3072) (C0 : lw_At p s m meth c b L xs) {dC : Nat → ClassId} {dI : Nat → Nat → Nat} (qK qM qo : Nat) (cB cD cR cO cB2 cI cL cZ : ClassId) (fo : Nat → Int64) (x : KX) (ds : Nat → Option Dc) (y : MY) (σ : Sg) (i c0 s0 : Nat) (hi : i + 6 ≤ L) (hcc : c0 + 2 ≤ 601024) (hss : s0 + 264 ≤ 7293033) (hsg : sOk σ) (hk : kOk σ x ds) (hm : mOk σ y) (hN : nw_ok s) (hTw : tw_ok s) (hnc : nc_ok s) (hK : va_K (dC, dI) vwCl [(cO, .long), (cB, .byte), (cD, .object R_D), (cR, .object R_V), (cB2, .byte), (cI, .int), (cL, .short), (cZ, .boolean)] s) (H : Heap) (locs : List Loc) (hP : va_P (dC, dI) vwCl ((([(qo, .inl (cO, 1, .inr (.inl (fo))))] : va_W) ++ kW qK cB cD cR x ds) ++ mW qM cB2 cI cL cZ y) H) (hD : va_D (fun q : Nat => s.heap.size ≤ q) ((([(qo, .inl (cO, 1, .inr (.inl (fo))))] : va_W) ++ kW qK cB cD cR x ds) ++ mW qM cB2 cI cL cZ y)) (hS : va_S (fun q : Nat => s.heap.size ≤ q) s.heap H locs) (ls : Array Slot) (hl : lv_has ls 7 [(4, .int (nI i)), (3, .ref qo), (2, .ref qM), (1, .ref qK), (0, .ref b)]) (kk : ∀ (σ : Sg) (x : KX) (ds : Nat → Option Dc) (y : MY) (fo : Nat → Int64) (H : Heap) (locs : List Loc) (ls : Array Slot), sOk σ → kOk σ x ds → mOk σ y → va_P (dC, dI) vwCl ((([(qo, .inl (cO, 1, .inr (.inl (fo))))] : va_W) ++ kW qK cB cD cR x ds) ++ mW qM cB2 cI cL cZ y) H → va_D (fun q : Nat => s.heap.size ≤ q) ((([(qo, .inl (cO, 1, .inr (.inl (fo))))] : va_W) ++ kW qK cB cD cR x ds) ++ mW qM cB2 cI cL cZ y) → va_S (fun q : Nat => s.heap.size ≤ q) s.heap H locs → lv_has ls 7 [(4, .int (nI i)), (3, .ref qo), (2, .ref qM), (1, .ref qK), (0, .ref b)] → W p l e room_1 s m #[Value.ref b] below meth c H locs (c0 + 2) (s0 + 264) (lw_Z below #[Value.ref b] s) (F0 m 842 ls [])) : W p l e room_1 s m #[Value.ref b] below meth c H locs c0 s0 (lw_Z below #[Value.ref b] s) (F0 m 708 ls []) := by
  obtain ⟨hx, hb, hr, hml, hown, hts, hX, hbl, hlocks, hgv⟩ := id C0
  have hw0 : ∀ w ∈ w0, w.before #[Value.ref b] s = true := fun w h => hts w (w0_ok w h).1
  have hA : ∀ q : Nat, s.heap.size ≤ q → (fun q : Nat => s.heap.size ≤ q) q := fun _ h => h
  have hbA : ¬ (fun q : Nat => s.heap.size ≤ q) b := Nat.not_le.mpr hbl
  refine lv_aload_n hx hb d_L_law_708 rfl (lv_at hl 3 rfl) ?_
  refine lv_aload_n hx hb d_L_law_709 rfl (lv_at hl 4 rfl) ?_
  refine lv_iload hx hb d_L_law_710 (lv_at hl 0 rfl) ?_
  refine lv_iconst (v := 1) hx hb d_L_law_712 (by decide) ?_
  refine lv_iadd hx hb d_L_law_713 ?_
  refine lv_topi (fun x_1 ex_1 => ?_)
  obtain rfl : x_1 = nI (i + 1) := ex_1.trans (nI_add i 1)
  refine va_sld hx hb hX hbl hbA hS (x_inK (Nat.le_refl L) (by omega) (nI_pos (by omega)) (nI_ge (by omega) (by omega))) d_L_law_714 ?_
  refine lv_aload_n hx hb d_L_law_715 rfl (lv_at hl 4 rfl) ?_
  refine lv_iload hx hb d_L_law_716 (lv_at hl 0 rfl) ?_
  refine lv_iconst (v := 2) hx hb d_L_law_718 (by decide) ?_
  refine lv_iadd hx hb d_L_law_719 ?_
  refine lv_topi (fun x_2 ex_2 => ?_)
  obtain rfl : x_2 = nI (i + 2) := ex_2.trans (nI_add i 2)
  refine va_sld hx hb hX hbl hbA hS (x_inK (Nat.le_refl L) (by omega) (nI_pos (by omega)) (nI_ge (by omega) (by omega))) d_L_law_720 ?_
  refine lv_aload_n hx hb d_L_law_721 rfl (lv_at hl 4 rfl) ?_
  refine lv_iload hx hb d_L_law_722 (lv_at hl 0 rfl) ?_
  refine lv_iconst (v := 3) hx hb d_L_law_724 (by decide) ?_
  refine lv_iadd hx hb d_L_law_725 ?_
  refine lv_topi (fun x_3 ex_3 => ?_)
  obtain rfl : x_3 = nI (i + 3) := ex_3.trans (nI_add i 3)
  refine va_sld hx hb hX hbl hbA hS (x_inK (Nat.le_refl L) (by omega) (nI_pos (by omega)) (nI_ge (by omega) (by omega))) d_L_law_726 ?_
  refine lv_aload_n hx hb d_L_law_727 rfl (lv_at hl 4 rfl) ?_
  refine lv_iload hx hb d_L_law_728 (lv_at hl 0 rfl) ?_
  refine lv_iconst (v := 4) hx hb d_L_law_730 (by decide) ?_
  refine lv_iadd hx hb d_L_law_731 ?_
  refine lv_topi (fun x_4 ex_4 => ?_)
  obtain rfl : x_4 = nI (i + 4) := ex_4.trans (nI_add i 4)
  refine va_sld hx hb hX hbl hbA hS (x_inK (Nat.le_refl L) (by omega) (nI_pos (by omega)) (nI_ge (by omega) (by omega))) d_L_law_732 ?_
  refine lv_aload_n hx hb d_L_law_733 rfl (lv_at hl 1 rfl) ?_
  have hPc : va_P (dC, dI) vwCl (([(qo, .inl (cO, 1, .inr (.inl (fo))))] : va_W) ++ kW qK cB cD cR x ds) H := hP.left
  have hDc : va_D (fun q : Nat => s.heap.size ≤ q) (([(qo, .inl (cO, 1, .inr (.inl (fo))))] : va_W) ++ kW qK cB cD cR x ds) := hD.left
  have hKc : va_K (dC, dI) vwCl [(cO, .long), (cB, .byte), (cD, .object R_D), (cR, .object R_V)] s := hK.sub [0, 1, 2, 3] rfl
  have hFc : ∀ q : Nat, va_A (([(qo, .inl (cO, 1, .inr (.inl (fo))))] : va_W) ++ kW qK cB cD cR x ds) H.size q → (fun q : Nat => s.heap.size ≤ q) q := fr_free hD hS hA (List.Perm.refl _)
  have hS0 := hS
  refine va_calli (va_runSW (As := [.ref qK, .int (xs (Int32.toNatClampNeg (nI (i + 1)))), .int (xs (Int32.toNatClampNeg (nI (i + 2)))), .int (xs (Int32.toNatClampNeg (nI (i + 3)))), .int (xs (Int32.toNatClampNeg (nI (i + 4)))), .ref qo]) (rest := []) ⟨hx, hb, hml, hown, hw0⟩ (w_common l hl9 dC dI H.size qK qo cB cD cR cO fo x ds σ (xs (Int32.toNatClampNeg (nI (i + 1)))) (xs (Int32.toNatClampNeg (nI (i + 2)))) (xs (Int32.toNatClampNeg (nI (i + 3)))) (xs (Int32.toNatClampNeg (nI (i + 4)))) hsg hk) (csw_of 6 hw0 688 689 690 588 rfl rfl rfl rfl rfl rfl (by decide +kernel) ⟨by decide +kernel, by decide +kernel⟩) (prS_T hPc hKc hDc hN hTw (fun a ha => hS.2.1 a ha (Nat.not_le.mpr ha))) rfl rfl hl.1 rfl (lv_room (Nat.le_of_ble_eq_true rfl)) d_L_law_734 ⟨hcc, hss⟩) hS (fun q _ h => hFc q h) hFc (fun r u t H1 locs ht hvm hw hB hz1 hk1 hS => ?_)
  obtain ⟨fo2, x2, ds2, ⟨hk2, hout⟩, hP1, hK1, hD1⟩ := hB
  rw [ht] at hP1
  obtain ⟨hP, hD⟩ := fr_wld (W2 := ((([(qo, .inl (cO, 1, .inr (.inl (fo2))))] : va_W) ++ kW qK cB cD cR x2 ds2) ++ mW qM cB2 cI cL cZ y)) (A := (fun q : Nat => s.heap.size ≤ q)) (fun q hq => hA q (Nat.le_trans hS0.1 hq)) hP hD (List.Perm.refl _) hk1 hP1 hD1 (kz (List.Perm.refl _))
  clear hPc hDc hKc hFc hP1 hD1 hK1 hk1 hS0
  generalize H1 = H at hP hS ⊢
  refine lv_istore (lv' := [(5, .int r), (4, .int (nI i)), (3, .ref qo), (2, .ref qM), (1, .ref qK), (0, .ref b)]) hx hb d_L_law_737 hl (by decide) rfl (fun ls hl => ?_)
  refine lv_aload_n hx hb d_L_law_739 rfl (lv_at hl 3 rfl) ?_
  refine lv_aload_n hx hb d_L_law_740 rfl (lv_at hl 5 rfl) ?_
  refine lv_iload hx hb d_L_law_741 (lv_at hl 1 rfl) ?_
  refine lv_iconst (v := 1) hx hb d_L_law_743 (by decide) ?_
  refine lv_iadd hx hb d_L_law_744 ?_
  refine lv_topi (fun x_5 ex_5 => ?_)
  obtain rfl : x_5 = nI (i + 1) := ex_5.trans (nI_add i 1)
  refine va_sld hx hb hX hbl hbA hS (x_inK (Nat.le_refl L) (by omega) (nI_pos (by omega)) (nI_ge (by omega) (by omega))) d_L_law_745 ?_
  refine lv_aload_n hx hb d_L_law_746 rfl (lv_at hl 5 rfl) ?_
  refine lv_iload hx hb d_L_law_747 (lv_at hl 1 rfl) ?_
  refine lv_iconst (v := 2) hx hb d_L_law_749 (by decide) ?_
  refine lv_iadd hx hb d_L_law_750 ?_
  refine lv_topi (fun x_6 ex_6 => ?_)
  obtain rfl : x_6 = nI (i + 2) := ex_6.trans (nI_add i 2)
  refine va_sld hx hb hX hbl hbA hS (x_inK (Nat.le_refl L) (by omega) (nI_pos (by omega)) (nI_ge (by omega) (by omega))) d_L_law_751 ?_
  refine lv_aload_n hx hb d_L_law_752 rfl (lv_at hl 5 rfl) ?_
  refine lv_iload hx hb d_L_law_753 (lv_at hl 1 rfl) ?_
  refine lv_iconst (v := 3) hx hb d_L_law_755 (by decide) ?_
  refine lv_iadd hx hb d_L_law_756 ?_
  refine lv_topi (fun x_7 ex_7 => ?_)
  obtain rfl : x_7 = nI (i + 3) := ex_7.trans (nI_add i 3)
  refine va_sld hx hb hX hbl hbA hS (x_inK (Nat.le_refl L) (by omega) (nI_pos (by omega)) (nI_ge (by omega) (by omega))) d_L_law_757 ?_
  refine lv_aload_n hx hb d_L_law_758 rfl (lv_at hl 5 rfl) ?_
  refine lv_iload hx hb d_L_law_759 (lv_at hl 1 rfl) ?_
  refine lv_iconst (v := 4) hx hb d_L_law_761 (by decide) ?_
  refine lv_iadd hx hb d_L_law_762 ?_
  refine lv_topi (fun x_8 ex_8 => ?_)
  obtain rfl : x_8 = nI (i + 4) := ex_8.trans (nI_add i 4)
  refine va_sld hx hb hX hbl hbA hS (x_inK (Nat.le_refl L) (by omega) (nI_pos (by omega)) (nI_ge (by omega) (by omega))) d_L_law_763 ?_
  have hPc : va_P (dC, dI) vwCl (mW qM cB2 cI cL cZ y) H := (hP.perm List.perm_append_comm).left
  have hDc : va_D (fun q : Nat => s.heap.size ≤ q) (mW qM cB2 cI cL cZ y) := (hD.perm List.perm_append_comm).left
  have hKc : va_K (dC, dI) vwCl (mT cB2 cI cL cZ) s := hK.sub [4, 5, 6, 7] rfl
  have hFc : ∀ q : Nat, va_A (mW qM cB2 cI cL cZ y) H.size q → (fun q : Nat => s.heap.size ≤ q) q := fr_free hD hS hA List.perm_append_comm
  have hS0 := hS
  refine va_calli (va_runV (As := [.int (xs (Int32.toNatClampNeg (nI (i + 1)))), .int (xs (Int32.toNatClampNeg (nI (i + 2)))), .int (xs (Int32.toNatClampNeg (nI (i + 3)))), .int (xs (Int32.toNatClampNeg (nI (i + 4))))]) (rest := []) ⟨hx, hb, hml, hown, hw0⟩ (u_common l dC dI H.size qM cB2 cI cL cZ y σ (xs (Int32.toNatClampNeg (nI (i + 1)))) (xs (Int32.toNatClampNeg (nI (i + 2)))) (xs (Int32.toNatClampNeg (nI (i + 3)))) (xs (Int32.toNatClampNeg (nI (i + 4)))) hsg hm) (cwV 4 hw0 (gd_Vm wm_691 wm_692 wm_693 wm_243 wm_694) rfl rfl rfl (by decide +kernel) ⟨by decide +kernel, by decide +kernel⟩) (prV_E hPc hKc hDc hN (va_recv hKc hPc (ci := 7) (q0 := 0) rfl rfl)) rfl rfl hl.1 rfl (lv_room (Nat.le_of_ble_eq_true rfl)) d_L_law_764 ⟨hcc, hss⟩) hS (fun q _ h => hFc q h) hFc (fun r2 u t H1 locs ht hvm hw2 hB hz1 hk1 hS => ?_)
  obtain ⟨y2, ⟨hm2, hth⟩, hP1, hK1, hD1⟩ := hB
  rw [ht] at hP1
  obtain ⟨hP, hD⟩ := fr_wld (W2 := ((([(qo, .inl (cO, 1, .inr (.inl (fo2))))] : va_W) ++ kW qK cB cD cR x2 ds2) ++ mW qM cB2 cI cL cZ y2)) (A := (fun q : Nat => s.heap.size ≤ q)) (fun q hq => hA q (Nat.le_trans hS0.1 hq)) hP hD List.perm_append_comm hk1 hP1 hD1 (kz List.perm_append_comm)
  clear hPc hDc hKc hFc hP1 hD1 hK1 hk1 hS0
  generalize H1 = H at hP hS ⊢
  refine W.widen (k := c0 + 2) (n := s0 + 264) (Nat.le_refl _) (Nat.le_refl _) ?_
  refine lv_istore (lv' := [(6, .int r2), (5, .int r), (4, .int (nI i)), (3, .ref qo), (2, .ref qM), (1, .ref qK), (0, .ref b)]) hx hb d_L_law_767 hl (by decide) rfl (fun ls hl => ?_)
  refine lv_goto (tgt := 842) hx hb d_L_law_769 (by decide) ?_
  rw [st_common] at hk2 hm2
  exact kk _ x2 ds2 y2 fo2 _ _ ls hsg hk2 hm2 hP hD hS (lv_sub hl [2, 3, 4, 5, 6] rfl)
set_option maxHeartbeats 4000000 in
set_option maxRecDepth 100000 in
theorem lw_c_15 {p : Program} {e : Env} {s : State} {m : MethodId} {below : List Frame} {meth : Method} {c : Code} (l : Launch) (hl9 : l.stackTraces = false) {b L : Nat} {xs : Nat → Int32} (hL : L ≤ 3072) (C0 : lw_At p s m meth c b L xs) {dC : Nat → ClassId} {dI : Nat → Nat → Nat} (qK qM qo : Nat) (cB cD cR cO cB2 cI cL cZ : ClassId) (fo : Nat → Int64) (x : KX) (ds : Nat → Option Dc) (y : MY) (σ : Sg) (i c0 s0 : Nat) (hi : i + 6 ≤ L) (hcc : c0 + 2 ≤ 601024) (hss : s0 + 264 ≤ 7293033) (hsg : sOk σ) (hk : kOk σ x ds) (hm : mOk σ y) (hN : nw_ok s) (hTw : tw_ok s) (hnc : nc_ok s) (hK : va_K (dC, dI) vwCl [(cO, .long), (cB, .byte), (cD, .object R_D), (cR, .object R_V), (cB2, .byte), (cI, .int), (cL, .short), (cZ, .boolean)] s) (H : Heap) (locs : List Loc) (hP : va_P (dC, dI) vwCl ((([(qo, .inl (cO, 1, .inr (.inl (fo))))] : va_W) ++ kW qK cB cD cR x ds) ++ mW qM cB2 cI cL cZ y) H) (hD : va_D (fun q : Nat => s.heap.size ≤ q) ((([(qo, .inl (cO, 1, .inr (.inl (fo))))] : va_W) ++ kW qK cB cD cR x ds) ++ mW qM cB2 cI cL cZ y)) (hS : va_S (fun q : Nat => s.heap.size ≤ q) s.heap H locs) (ls : Array Slot) (hl : lv_has ls 7 [(4, .int (nI i)), (3, .ref qo), (2, .ref qM), (1, .ref qK), (0, .ref b)]) (kk : ∀ (σ : Sg) (x : KX) (ds : Nat → Option Dc) (y : MY) (fo : Nat → Int64) (H : Heap) (locs : List Loc) (ls : Array Slot), sOk σ → kOk σ x ds → mOk σ y → va_P (dC, dI) vwCl ((([(qo, .inl (cO, 1, .inr (.inl (fo))))] : va_W) ++ kW qK cB cD cR x ds) ++ mW qM cB2 cI cL cZ y) H → va_D (fun q : Nat => s.heap.size ≤ q) ((([(qo, .inl (cO, 1, .inr (.inl (fo))))] : va_W) ++ kW qK cB cD cR x ds) ++ mW qM cB2 cI cL cZ y) → va_S (fun q : Nat => s.heap.size ≤ q) s.heap H locs → lv_has ls 7 [(4, .int (nI i)), (3, .ref qo), (2, .ref qM), (1, .ref qK), (0, .ref b)] → W p l e room_1 s m #[Value.ref b] below meth c H locs (c0 + 2) (s0 + 264) (lw_Z below #[Value.ref b] s) (F0 m 842 ls [])) : W p l e room_1 s m #[Value.ref b] below meth c H locs c0 s0 (lw_Z below #[Value.ref b] s) (F0 m 772 ls []) := by
  obtain ⟨hx, hb, hr, hml, hown, hts, hX, hbl, hlocks, hgv⟩ := id C0
  have hw0 : ∀ w ∈ w0, w.before #[Value.ref b] s = true := fun w h => hts w (w0_ok w h).1
  have hA : ∀ q : Nat, s.heap.size ≤ q → (fun q : Nat => s.heap.size ≤ q) q := fun _ h => h
  have hbA : ¬ (fun q : Nat => s.heap.size ≤ q) b := Nat.not_le.mpr hbl
  refine lv_aload_n hx hb d_L_law_772 rfl (lv_at hl 3 rfl) ?_
  refine lv_aload_n hx hb d_L_law_773 rfl (lv_at hl 1 rfl) ?_
  have hPc : va_P (dC, dI) vwCl (([(qo, .inl (cO, 1, .inr (.inl (fo))))] : va_W) ++ kW qK cB cD cR x ds) H := hP.left
  have hDc : va_D (fun q : Nat => s.heap.size ≤ q) (([(qo, .inl (cO, 1, .inr (.inl (fo))))] : va_W) ++ kW qK cB cD cR x ds) := hD.left
  have hKc : va_K (dC, dI) vwCl [(cO, .long), (cB, .byte), (cD, .object R_D), (cR, .object R_V)] s := hK.sub [0, 1, 2, 3] rfl
  have hFc : ∀ q : Nat, va_A (([(qo, .inl (cO, 1, .inr (.inl (fo))))] : va_W) ++ kW qK cB cD cR x ds) H.size q → (fun q : Nat => s.heap.size ≤ q) q := fr_free hD hS hA (List.Perm.refl _)
  have hS0 := hS
  refine va_calli (va_runSW (As := [.ref qK, .ref qo]) (rest := []) ⟨hx, hb, hml, hown, hw0⟩ (w_freeBlocks l hl9 dC dI H.size qK qo cB cD cR cO fo x ds σ hsg hk) (csw_of 2 hw0 695 696 697 588 rfl rfl rfl rfl rfl rfl (by decide +kernel) ⟨by decide +kernel, by decide +kernel⟩) (prS_T hPc hKc hDc hN hTw (fun a ha => hS.2.1 a ha (Nat.not_le.mpr ha))) rfl rfl hl.1 rfl (lv_room (Nat.le_of_ble_eq_true rfl)) d_L_law_774 ⟨hcc, hss⟩) hS (fun q _ h => hFc q h) hFc (fun r u t H1 locs ht hvm hw hB hz1 hk1 hS => ?_)
  obtain ⟨fo2, x2, ds2, ⟨hk2, hout⟩, hP1, hK1, hD1⟩ := hB
  rw [ht] at hP1
  obtain ⟨hP, hD⟩ := fr_wld (W2 := ((([(qo, .inl (cO, 1, .inr (.inl (fo2))))] : va_W) ++ kW qK cB cD cR x2 ds2) ++ mW qM cB2 cI cL cZ y)) (A := (fun q : Nat => s.heap.size ≤ q)) (fun q hq => hA q (Nat.le_trans hS0.1 hq)) hP hD (List.Perm.refl _) hk1 hP1 hD1 (kz (List.Perm.refl _))
  clear hPc hDc hKc hFc hP1 hD1 hK1 hk1 hS0
  generalize H1 = H at hP hS ⊢
  refine lv_istore (lv' := [(5, .int r), (4, .int (nI i)), (3, .ref qo), (2, .ref qM), (1, .ref qK), (0, .ref b)]) hx hb d_L_law_777 hl (by decide) rfl (fun ls hl => ?_)
  refine lv_aload_n hx hb d_L_law_779 rfl (lv_at hl 3 rfl) ?_
  have hPc : va_P (dC, dI) vwCl (mW qM cB2 cI cL cZ y) H := (hP.perm List.perm_append_comm).left
  have hDc : va_D (fun q : Nat => s.heap.size ≤ q) (mW qM cB2 cI cL cZ y) := (hD.perm List.perm_append_comm).left
  have hKc : va_K (dC, dI) vwCl (mT cB2 cI cL cZ) s := hK.sub [4, 5, 6, 7] rfl
  have hFc : ∀ q : Nat, va_A (mW qM cB2 cI cL cZ y) H.size q → (fun q : Nat => s.heap.size ≤ q) q := fr_free hD hS hA List.perm_append_comm
  have hS0 := hS
  refine va_calli (va_runV (As := []) (rest := []) ⟨hx, hb, hml, hown, hw0⟩ (u_freeBlocks l dC dI H.size qM cB2 cI cL cZ y σ hsg hm) (cwV 0 hw0 (gd_Vm wm_698 wm_699 wm_700 wm_243 wm_701) rfl rfl rfl (by decide +kernel) ⟨by decide +kernel, by decide +kernel⟩) (prV_E hPc hKc hDc hN (va_recv hKc hPc (ci := 7) (q0 := 0) rfl rfl)) rfl rfl hl.1 rfl (lv_room (Nat.le_of_ble_eq_true rfl)) d_L_law_780 ⟨hcc, hss⟩) hS (fun q _ h => hFc q h) hFc (fun r2 u t H1 locs ht hvm hw2 hB hz1 hk1 hS => ?_)
  obtain ⟨y2, ⟨hm2, hth⟩, hP1, hK1, hD1⟩ := hB
  rw [ht] at hP1
  obtain ⟨hP, hD⟩ := fr_wld (W2 := ((([(qo, .inl (cO, 1, .inr (.inl (fo2))))] : va_W) ++ kW qK cB cD cR x2 ds2) ++ mW qM cB2 cI cL cZ y2)) (A := (fun q : Nat => s.heap.size ≤ q)) (fun q hq => hA q (Nat.le_trans hS0.1 hq)) hP hD List.perm_append_comm hk1 hP1 hD1 (kz List.perm_append_comm)
  clear hPc hDc hKc hFc hP1 hD1 hK1 hk1 hS0
  generalize H1 = H at hP hS ⊢
  refine W.widen (k := c0 + 2) (n := s0 + 264) (Nat.le_refl _) (Nat.le_refl _) ?_
  refine lv_istore (lv' := [(6, .int r2), (5, .int r), (4, .int (nI i)), (3, .ref qo), (2, .ref qM), (1, .ref qK), (0, .ref b)]) hx hb d_L_law_783 hl (by decide) rfl (fun ls hl => ?_)
  refine lv_goto (tgt := 842) hx hb d_L_law_785 (by decide) ?_
  rw [st_free] at hk2 hm2
  exact kk _ x2 ds2 y2 fo2 _ _ ls hsg hk2 hm2 hP hD hS (lv_sub hl [2, 3, 4, 5, 6] rfl)
end
section
set_option maxHeartbeats 4000000 in
set_option maxRecDepth 100000 in
theorem lw_c_16 {p : Program} {e : Env} {s : State} {m : MethodId} {below : List Frame} {meth : Method} {c : Code} (l : Launch) (hl9 : l.stackTraces = false) {b L : Nat} {xs : Nat → Int32} (hL : L ≤ 3072) (C0 : lw_At p s m meth c b L xs) {dC : Nat → ClassId} {dI : Nat → Nat → Nat} (qK qM qo : Nat) (cB cD cR cO cB2 cI cL cZ : ClassId) (fo : Nat → Int64) (x : KX) (ds : Nat → Option Dc) (y : MY) (σ : Sg) (i c0 s0 : Nat) (hi : i + 6 ≤ L) (hcc : c0 + 2 ≤ 601024) (hss : s0 + 264 ≤ 7293033) (hsg : sOk σ) (hk : kOk σ x ds) (hm : mOk σ y) (hN : nw_ok s) (hTw : tw_ok s) (hnc : nc_ok s) (hK : va_K (dC, dI) vwCl [(cO, .long), (cB, .byte), (cD, .object R_D), (cR, .object R_V), (cB2, .byte), (cI, .int), (cL, .short), (cZ, .boolean)] s) (H : Heap) (locs : List Loc) (hP : va_P (dC, dI) vwCl ((([(qo, .inl (cO, 1, .inr (.inl (fo))))] : va_W) ++ kW qK cB cD cR x ds) ++ mW qM cB2 cI cL cZ y) H) (hD : va_D (fun q : Nat => s.heap.size ≤ q) ((([(qo, .inl (cO, 1, .inr (.inl (fo))))] : va_W) ++ kW qK cB cD cR x ds) ++ mW qM cB2 cI cL cZ y)) (hS : va_S (fun q : Nat => s.heap.size ≤ q) s.heap H locs) (ls : Array Slot) (hl : lv_has ls 7 [(4, .int (nI i)), (3, .ref qo), (2, .ref qM), (1, .ref qK), (0, .ref b)]) (kk : ∀ (σ : Sg) (x : KX) (ds : Nat → Option Dc) (y : MY) (fo : Nat → Int64) (H : Heap) (locs : List Loc) (ls : Array Slot), sOk σ → kOk σ x ds → mOk σ y → va_P (dC, dI) vwCl ((([(qo, .inl (cO, 1, .inr (.inl (fo))))] : va_W) ++ kW qK cB cD cR x ds) ++ mW qM cB2 cI cL cZ y) H → va_D (fun q : Nat => s.heap.size ≤ q) ((([(qo, .inl (cO, 1, .inr (.inl (fo))))] : va_W) ++ kW qK cB cD cR x ds) ++ mW qM cB2 cI cL cZ y) → va_S (fun q : Nat => s.heap.size ≤ q) s.heap H locs → lv_has ls 7 [(4, .int (nI i)), (3, .ref qo), (2, .ref qM), (1, .ref qK), (0, .ref b)] → W p l e room_1 s m #[Value.ref b] below meth c H locs (c0 + 2) (s0 + 264) (lw_Z below #[Value.ref b] s) (F0 m 842 ls [])) : W p l e room_1 s m #[Value.ref b] below meth c H locs c0 s0 (lw_Z below #[Value.ref b] s) (F0 m 788 ls []) := by
  obtain ⟨hx, hb, hr, hml, hown, hts, hX, hbl, hlocks, hgv⟩ := id C0
  have hw0 : ∀ w ∈ w0, w.before #[Value.ref b] s = true := fun w h => hts w (w0_ok w h).1
  have hA : ∀ q : Nat, s.heap.size ≤ q → (fun q : Nat => s.heap.size ≤ q) q := fun _ h => h
  have hbA : ¬ (fun q : Nat => s.heap.size ≤ q) b := Nat.not_le.mpr hbl
  refine lv_aload_n hx hb d_L_law_788 rfl (lv_at hl 3 rfl) ?_
  refine lv_aload_n hx hb d_L_law_789 rfl (lv_at hl 4 rfl) ?_
  refine lv_iload hx hb d_L_law_790 (lv_at hl 0 rfl) ?_
  refine lv_iconst (v := 1) hx hb d_L_law_792 (by decide) ?_
  refine lv_iadd hx hb d_L_law_793 ?_
  refine lv_topi (fun x_1 ex_1 => ?_)
  obtain rfl : x_1 = nI (i + 1) := ex_1.trans (nI_add i 1)
  refine va_sld hx hb hX hbl hbA hS (x_inK (Nat.le_refl L) (by omega) (nI_pos (by omega)) (nI_ge (by omega) (by omega))) d_L_law_794 ?_
  refine lv_aload_n hx hb d_L_law_795 rfl (lv_at hl 1 rfl) ?_
  have hPc : va_P (dC, dI) vwCl (([(qo, .inl (cO, 1, .inr (.inl (fo))))] : va_W) ++ kW qK cB cD cR x ds) H := hP.left
  have hDc : va_D (fun q : Nat => s.heap.size ≤ q) (([(qo, .inl (cO, 1, .inr (.inl (fo))))] : va_W) ++ kW qK cB cD cR x ds) := hD.left
  have hKc : va_K (dC, dI) vwCl [(cO, .long), (cB, .byte), (cD, .object R_D), (cR, .object R_V)] s := hK.sub [0, 1, 2, 3] rfl
  have hFc : ∀ q : Nat, va_A (([(qo, .inl (cO, 1, .inr (.inl (fo))))] : va_W) ++ kW qK cB cD cR x ds) H.size q → (fun q : Nat => s.heap.size ≤ q) q := fr_free hD hS hA (List.Perm.refl _)
  have hS0 := hS
  refine va_calli (va_runSW (As := [.ref qK, .int (xs (Int32.toNatClampNeg (nI (i + 1)))), .ref qo]) (rest := []) ⟨hx, hb, hml, hown, hw0⟩ (w_cutAfter l hl9 dC dI H.size qK qo cB cD cR cO fo x ds σ (xs (Int32.toNatClampNeg (nI (i + 1)))) hsg hk) (csw_of 3 hw0 702 703 704 588 rfl rfl rfl rfl rfl rfl (by decide +kernel) ⟨by decide +kernel, by decide +kernel⟩) (prS_T hPc hKc hDc hN hTw (fun a ha => hS.2.1 a ha (Nat.not_le.mpr ha))) rfl rfl hl.1 rfl (lv_room (Nat.le_of_ble_eq_true rfl)) d_L_law_796 ⟨hcc, hss⟩) hS (fun q _ h => hFc q h) hFc (fun r u t H1 locs ht hvm hw hB hz1 hk1 hS => ?_)
  obtain ⟨fo2, x2, ds2, ⟨hk2, hout⟩, hP1, hK1, hD1⟩ := hB
  rw [ht] at hP1
  obtain ⟨hP, hD⟩ := fr_wld (W2 := ((([(qo, .inl (cO, 1, .inr (.inl (fo2))))] : va_W) ++ kW qK cB cD cR x2 ds2) ++ mW qM cB2 cI cL cZ y)) (A := (fun q : Nat => s.heap.size ≤ q)) (fun q hq => hA q (Nat.le_trans hS0.1 hq)) hP hD (List.Perm.refl _) hk1 hP1 hD1 (kz (List.Perm.refl _))
  clear hPc hDc hKc hFc hP1 hD1 hK1 hk1 hS0
  generalize H1 = H at hP hS ⊢
  refine lv_istore (lv' := [(5, .int r), (4, .int (nI i)), (3, .ref qo), (2, .ref qM), (1, .ref qK), (0, .ref b)]) hx hb d_L_law_799 hl (by decide) rfl (fun ls hl => ?_)
  refine lv_aload_n hx hb d_L_law_801 rfl (lv_at hl 3 rfl) ?_
  refine lv_aload_n hx hb d_L_law_802 rfl (lv_at hl 5 rfl) ?_
  refine lv_iload hx hb d_L_law_803 (lv_at hl 1 rfl) ?_
  refine lv_iconst (v := 1) hx hb d_L_law_805 (by decide) ?_
  refine lv_iadd hx hb d_L_law_806 ?_
  refine lv_topi (fun x_2 ex_2 => ?_)
  obtain rfl : x_2 = nI (i + 1) := ex_2.trans (nI_add i 1)
  refine va_sld hx hb hX hbl hbA hS (x_inK (Nat.le_refl L) (by omega) (nI_pos (by omega)) (nI_ge (by omega) (by omega))) d_L_law_807 ?_
  have hPc : va_P (dC, dI) vwCl (mW qM cB2 cI cL cZ y) H := (hP.perm List.perm_append_comm).left
  have hDc : va_D (fun q : Nat => s.heap.size ≤ q) (mW qM cB2 cI cL cZ y) := (hD.perm List.perm_append_comm).left
  have hKc : va_K (dC, dI) vwCl (mT cB2 cI cL cZ) s := hK.sub [4, 5, 6, 7] rfl
  have hFc : ∀ q : Nat, va_A (mW qM cB2 cI cL cZ y) H.size q → (fun q : Nat => s.heap.size ≤ q) q := fr_free hD hS hA List.perm_append_comm
  have hS0 := hS
  refine va_calli (va_runV (As := [.int (xs (Int32.toNatClampNeg (nI (i + 1))))]) (rest := []) ⟨hx, hb, hml, hown, hw0⟩ (u_cutAfter l dC dI H.size qM cB2 cI cL cZ y σ (xs (Int32.toNatClampNeg (nI (i + 1)))) hsg hm) (cwV 1 hw0 (gd_Vm wm_705 wm_706 wm_707 wm_243 wm_708) rfl rfl rfl (by decide +kernel) ⟨by decide +kernel, by decide +kernel⟩) (prV_E hPc hKc hDc hN (va_recv hKc hPc (ci := 7) (q0 := 0) rfl rfl)) rfl rfl hl.1 rfl (lv_room (Nat.le_of_ble_eq_true rfl)) d_L_law_808 ⟨hcc, hss⟩) hS (fun q _ h => hFc q h) hFc (fun r2 u t H1 locs ht hvm hw2 hB hz1 hk1 hS => ?_)
  obtain ⟨y2, ⟨hm2, hth⟩, hP1, hK1, hD1⟩ := hB
  rw [ht] at hP1
  obtain ⟨hP, hD⟩ := fr_wld (W2 := ((([(qo, .inl (cO, 1, .inr (.inl (fo2))))] : va_W) ++ kW qK cB cD cR x2 ds2) ++ mW qM cB2 cI cL cZ y2)) (A := (fun q : Nat => s.heap.size ≤ q)) (fun q hq => hA q (Nat.le_trans hS0.1 hq)) hP hD List.perm_append_comm hk1 hP1 hD1 (kz List.perm_append_comm)
  clear hPc hDc hKc hFc hP1 hD1 hK1 hk1 hS0
  generalize H1 = H at hP hS ⊢
  refine W.widen (k := c0 + 2) (n := s0 + 264) (Nat.le_refl _) (Nat.le_refl _) ?_
  refine lv_istore (lv' := [(6, .int r2), (5, .int r), (4, .int (nI i)), (3, .ref qo), (2, .ref qM), (1, .ref qK), (0, .ref b)]) hx hb d_L_law_811 hl (by decide) rfl (fun ls hl => ?_)
  refine lv_goto (tgt := 842) hx hb d_L_law_813 (by decide) ?_
  exact kk _ x2 ds2 y2 fo2 _ _ ls (sOk_of (sW_cut (sW_of hsg)) hk2) hk2 hm2 hP hD hS (lv_sub hl [2, 3, 4, 5, 6] rfl)
set_option maxHeartbeats 4000000 in
set_option maxRecDepth 100000 in
theorem lw_c_17 {p : Program} {e : Env} {s : State} {m : MethodId} {below : List Frame} {meth : Method} {c : Code} (l : Launch) (hl9 : l.stackTraces = false) {b L : Nat} {xs : Nat → Int32} (hL : L ≤ 3072) (C0 : lw_At p s m meth c b L xs) {dC : Nat → ClassId} {dI : Nat → Nat → Nat} (qK qM qo : Nat) (cB cD cR cO cB2 cI cL cZ : ClassId) (fo : Nat → Int64) (x : KX) (ds : Nat → Option Dc) (y : MY) (σ : Sg) (i c0 s0 : Nat) (hi : i + 6 ≤ L) (hcc : c0 + 2 ≤ 601024) (hss : s0 + 264 ≤ 7293033) (hsg : sOk σ) (hk : kOk σ x ds) (hm : mOk σ y) (hN : nw_ok s) (hTw : tw_ok s) (hnc : nc_ok s) (hK : va_K (dC, dI) vwCl [(cO, .long), (cB, .byte), (cD, .object R_D), (cR, .object R_V), (cB2, .byte), (cI, .int), (cL, .short), (cZ, .boolean)] s) (H : Heap) (locs : List Loc) (hP : va_P (dC, dI) vwCl ((([(qo, .inl (cO, 1, .inr (.inl (fo))))] : va_W) ++ kW qK cB cD cR x ds) ++ mW qM cB2 cI cL cZ y) H) (hD : va_D (fun q : Nat => s.heap.size ≤ q) ((([(qo, .inl (cO, 1, .inr (.inl (fo))))] : va_W) ++ kW qK cB cD cR x ds) ++ mW qM cB2 cI cL cZ y)) (hS : va_S (fun q : Nat => s.heap.size ≤ q) s.heap H locs) (ls : Array Slot) (hl : lv_has ls 7 [(4, .int (nI i)), (3, .ref qo), (2, .ref qM), (1, .ref qK), (0, .ref b)]) (kk : ∀ (σ : Sg) (x : KX) (ds : Nat → Option Dc) (y : MY) (fo : Nat → Int64) (H : Heap) (locs : List Loc) (ls : Array Slot), sOk σ → kOk σ x ds → mOk σ y → va_P (dC, dI) vwCl ((([(qo, .inl (cO, 1, .inr (.inl (fo))))] : va_W) ++ kW qK cB cD cR x ds) ++ mW qM cB2 cI cL cZ y) H → va_D (fun q : Nat => s.heap.size ≤ q) ((([(qo, .inl (cO, 1, .inr (.inl (fo))))] : va_W) ++ kW qK cB cD cR x ds) ++ mW qM cB2 cI cL cZ y) → va_S (fun q : Nat => s.heap.size ≤ q) s.heap H locs → lv_has ls 7 [(4, .int (nI i)), (3, .ref qo), (2, .ref qM), (1, .ref qK), (0, .ref b)] → W p l e room_1 s m #[Value.ref b] below meth c H locs (c0 + 2) (s0 + 264) (lw_Z below #[Value.ref b] s) (F0 m 842 ls [])) : W p l e room_1 s m #[Value.ref b] below meth c H locs c0 s0 (lw_Z below #[Value.ref b] s) (F0 m 816 ls []) := by
  obtain ⟨hx, hb, hr, hml, hown, hts, hX, hbl, hlocks, hgv⟩ := id C0
  have hw0 : ∀ w ∈ w0, w.before #[Value.ref b] s = true := fun w h => hts w (w0_ok w h).1
  have hA : ∀ q : Nat, s.heap.size ≤ q → (fun q : Nat => s.heap.size ≤ q) q := fun _ h => h
  have hbA : ¬ (fun q : Nat => s.heap.size ≤ q) b := Nat.not_le.mpr hbl
  refine lv_aload_n hx hb d_L_law_816 rfl (lv_at hl 3 rfl) ?_
  have hPc : va_P (dC, dI) vwCl (kW qK cB cD cR x ds) H := (hP.perm (kpm _ _ _)).left
  have hDc : va_D (fun q : Nat => s.heap.size ≤ q) (kW qK cB cD cR x ds) := (hD.perm (kpm _ _ _)).left
  have hKc : va_K (dC, dI) vwCl (kT cB cD cR) s := hK.sub [1, 2, 3] rfl
  have hFc : ∀ q : Nat, va_A (kW qK cB cD cR x ds) H.size q → (fun q : Nat => s.heap.size ≤ q) q := fr_free hD hS hA (kpm _ _ _)
  have hS0 := hS
  refine vx_calli (vx_runV (As := []) (rest := []) ⟨hx, hb, hml, hown, hw0⟩ (kMet.out (k_start l hl9 dC dI H.size qK cB cD cR x ds σ hsg hk)) (cwV 0 hw0 (gd_Vm wm_709 wm_710 wm_711 wm_308 wm_712) rfl rfl rfl (by decide +kernel) ⟨by decide +kernel, by decide +kernel⟩) (prV_T hPc hKc hDc hN hTw (fun a ha => hS.2.1 a ha (Nat.not_le.mpr ha)) (va_recv hKc hPc (ci := 0) (q0 := 0) rfl rfl)) rfl rfl hl.1 rfl (lv_room (Nat.le_of_ble_eq_true rfl)) d_L_law_817 ⟨hcc, hss⟩) hS (fun q _ h => hFc q h) hFc (fun q _ h => hFc q h) (fun E ce q9 u t H1 locs ht hvm hw hB hz1 hk1 hS hce hcv hcl => absurd cd_start hB.1.1) (fun r u t H1 locs ht hvm hw hB hz1 hk1 hS => ?_)
  obtain ⟨hc0, hr0⟩ : (sStart σ).2.1 = 0 ∧ r = (sStart σ).2.2 := hw
  obtain ⟨x2, ds2, hk2, hP1, hK1, hD1⟩ := hB
  rw [ht] at hP1
  obtain ⟨hP, hD⟩ := fr_wld (W2 := ((([(qo, .inl (cO, 1, .inr (.inl (fo))))] : va_W) ++ kW qK cB cD cR x2 ds2) ++ mW qM cB2 cI cL cZ y)) (A := (fun q : Nat => s.heap.size ≤ q)) (fun q hq => hA q (Nat.le_trans hS0.1 hq)) hP hD (kpm _ _ _) hk1 hP1 hD1 (kz (kpm _ _ _))
  clear hPc hDc hKc hFc hP1 hD1 hK1 hk1 hS0
  generalize H1 = H at hP hS ⊢
  refine lv_pop hx hb d_L_law_820 rfl ?_
  refine lv_aload_n hx hb d_L_law_821 rfl (lv_at hl 2 rfl) ?_
  have hPc : va_P (dC, dI) vwCl (mW qM cB2 cI cL cZ y) H := (hP.perm List.perm_append_comm).left
  have hDc : va_D (fun q : Nat => s.heap.size ≤ q) (mW qM cB2 cI cL cZ y) := (hD.perm List.perm_append_comm).left
  have hKc : va_K (dC, dI) vwCl (mT cB2 cI cL cZ) s := hK.sub [4, 5, 6, 7] rfl
  have hFc : ∀ q : Nat, va_A (mW qM cB2 cI cL cZ y) H.size q → (fun q : Nat => s.heap.size ≤ q) q := fr_free hD hS hA List.perm_append_comm
  have hS0 := hS
  refine va_calli (va_runV (As := []) (rest := []) ⟨hx, hb, hml, hown, hw0⟩ (u_start l dC dI H.size qM cB2 cI cL cZ y σ hsg hm) (cwV 0 hw0 (gd_Vm wm_713 wm_714 wm_715 wm_243 wm_716) rfl rfl rfl (by decide +kernel) ⟨by decide +kernel, by decide +kernel⟩) (prV_E hPc hKc hDc hN (va_recv hKc hPc (ci := 7) (q0 := 0) rfl rfl)) rfl rfl hl.1 rfl (lv_room (Nat.le_of_ble_eq_true rfl)) d_L_law_822 ⟨hcc, hss⟩) hS (fun q _ h => hFc q h) hFc (fun r2 u t H1 locs ht hvm hw2 hB hz1 hk1 hS => ?_)
  obtain ⟨y2, ⟨hm2, hth⟩, hP1, hK1, hD1⟩ := hB
  rw [ht] at hP1
  obtain ⟨hP, hD⟩ := fr_wld (W2 := ((([(qo, .inl (cO, 1, .inr (.inl (fo))))] : va_W) ++ kW qK cB cD cR x2 ds2) ++ mW qM cB2 cI cL cZ y2)) (A := (fun q : Nat => s.heap.size ≤ q)) (fun q hq => hA q (Nat.le_trans hS0.1 hq)) hP hD List.perm_append_comm hk1 hP1 hD1 (kz List.perm_append_comm)
  clear hPc hDc hKc hFc hP1 hD1 hK1 hk1 hS0
  generalize H1 = H at hP hS ⊢
  refine W.widen (k := c0 + 2) (n := s0 + 264) (Nat.le_refl _) (Nat.le_refl _) ?_
  refine lv_pop hx hb d_L_law_825 rfl ?_
  refine lv_goto (tgt := 842) hx hb d_L_law_826 (by decide) ?_
  exact kk _ x2 ds2 y2 fo _ _ ls (sOk_of (sW_start (sW_of hsg)) hk2) hk2 hm2 hP hD hS (lv_sub hl [0, 1, 2, 3, 4] rfl)
set_option maxHeartbeats 4000000 in
set_option maxRecDepth 100000 in
theorem lw_c_18 {p : Program} {e : Env} {s : State} {m : MethodId} {below : List Frame} {meth : Method} {c : Code} (l : Launch) (hl9 : l.stackTraces = false) {b L : Nat} {xs : Nat → Int32} (hL : L ≤ 3072) (C0 : lw_At p s m meth c b L xs) {dC : Nat → ClassId} {dI : Nat → Nat → Nat} (qK qM qo : Nat) (cB cD cR cO cB2 cI cL cZ : ClassId) (fo : Nat → Int64) (x : KX) (ds : Nat → Option Dc) (y : MY) (σ : Sg) (i c0 s0 : Nat) (hi : i + 6 ≤ L) (hcc : c0 + 2 ≤ 601024) (hss : s0 + 264 ≤ 7293033) (hsg : sOk σ) (hk : kOk σ x ds) (hm : mOk σ y) (hN : nw_ok s) (hTw : tw_ok s) (hnc : nc_ok s) (hK : va_K (dC, dI) vwCl [(cO, .long), (cB, .byte), (cD, .object R_D), (cR, .object R_V), (cB2, .byte), (cI, .int), (cL, .short), (cZ, .boolean)] s) (H : Heap) (locs : List Loc) (hP : va_P (dC, dI) vwCl ((([(qo, .inl (cO, 1, .inr (.inl (fo))))] : va_W) ++ kW qK cB cD cR x ds) ++ mW qM cB2 cI cL cZ y) H) (hD : va_D (fun q : Nat => s.heap.size ≤ q) ((([(qo, .inl (cO, 1, .inr (.inl (fo))))] : va_W) ++ kW qK cB cD cR x ds) ++ mW qM cB2 cI cL cZ y)) (hS : va_S (fun q : Nat => s.heap.size ≤ q) s.heap H locs) (ls : Array Slot) (hl : lv_has ls 7 [(4, .int (nI i)), (3, .ref qo), (2, .ref qM), (1, .ref qK), (0, .ref b)]) (kk : ∀ (σ : Sg) (x : KX) (ds : Nat → Option Dc) (y : MY) (fo : Nat → Int64) (H : Heap) (locs : List Loc) (ls : Array Slot), sOk σ → kOk σ x ds → mOk σ y → va_P (dC, dI) vwCl ((([(qo, .inl (cO, 1, .inr (.inl (fo))))] : va_W) ++ kW qK cB cD cR x ds) ++ mW qM cB2 cI cL cZ y) H → va_D (fun q : Nat => s.heap.size ≤ q) ((([(qo, .inl (cO, 1, .inr (.inl (fo))))] : va_W) ++ kW qK cB cD cR x ds) ++ mW qM cB2 cI cL cZ y) → va_S (fun q : Nat => s.heap.size ≤ q) s.heap H locs → lv_has ls 7 [(4, .int (nI i)), (3, .ref qo), (2, .ref qM), (1, .ref qK), (0, .ref b)] → W p l e room_1 s m #[Value.ref b] below meth c H locs (c0 + 2) (s0 + 264) (lw_Z below #[Value.ref b] s) (F0 m 842 ls [])) : W p l e room_1 s m #[Value.ref b] below meth c H locs c0 s0 (lw_Z below #[Value.ref b] s) (F0 m 829 ls []) := by
  obtain ⟨hx, hb, hr, hml, hown, hts, hX, hbl, hlocks, hgv⟩ := id C0
  have hw0 : ∀ w ∈ w0, w.before #[Value.ref b] s = true := fun w h => hts w (w0_ok w h).1
  have hA : ∀ q : Nat, s.heap.size ≤ q → (fun q : Nat => s.heap.size ≤ q) q := fun _ h => h
  have hbA : ¬ (fun q : Nat => s.heap.size ≤ q) b := Nat.not_le.mpr hbl
  refine lv_aload_n hx hb d_L_law_829 rfl (lv_at hl 3 rfl) ?_
  have hPc : va_P (dC, dI) vwCl (kW qK cB cD cR x ds) H := (hP.perm (kpm _ _ _)).left
  have hDc : va_D (fun q : Nat => s.heap.size ≤ q) (kW qK cB cD cR x ds) := (hD.perm (kpm _ _ _)).left
  have hKc : va_K (dC, dI) vwCl (kT cB cD cR) s := hK.sub [1, 2, 3] rfl
  have hFc : ∀ q : Nat, va_A (kW qK cB cD cR x ds) H.size q → (fun q : Nat => s.heap.size ≤ q) q := fr_free hD hS hA (kpm _ _ _)
  have hS0 := hS
  refine vx_calli (vx_runV (As := []) (rest := []) ⟨hx, hb, hml, hown, hw0⟩ (kMet.out (k_isDown l hl9 dC dI H.size qK cB cD cR x ds σ hsg hk)) (cwV 0 hw0 (gd_Vm wm_717 wm_718 wm_719 wm_308 wm_720) rfl rfl rfl (by decide +kernel) ⟨by decide +kernel, by decide +kernel⟩) (prV_T hPc hKc hDc hN hTw (fun a ha => hS.2.1 a ha (Nat.not_le.mpr ha)) (va_recv hKc hPc (ci := 0) (q0 := 0) rfl rfl)) rfl rfl hl.1 rfl (lv_room (Nat.le_of_ble_eq_true rfl)) d_L_law_830 ⟨hcc, hss⟩) hS (fun q _ h => hFc q h) hFc (fun q _ h => hFc q h) (fun E ce q9 u t H1 locs ht hvm hw hB hz1 hk1 hS hce hcv hcl => absurd cd_isDown hB.1.1) (fun r u t H1 locs ht hvm hw hB hz1 hk1 hS => ?_)
  obtain ⟨hc0, hr0⟩ : (sIsDown σ).2.1 = 0 ∧ r = (sIsDown σ).2.2 := hw
  obtain ⟨x2, ds2, hk2, hP1, hK1, hD1⟩ := hB
  rw [ht] at hP1
  obtain ⟨hP, hD⟩ := fr_wld (W2 := ((([(qo, .inl (cO, 1, .inr (.inl (fo))))] : va_W) ++ kW qK cB cD cR x2 ds2) ++ mW qM cB2 cI cL cZ y)) (A := (fun q : Nat => s.heap.size ≤ q)) (fun q hq => hA q (Nat.le_trans hS0.1 hq)) hP hD (kpm _ _ _) hk1 hP1 hD1 (kz (kpm _ _ _))
  clear hPc hDc hKc hFc hP1 hD1 hK1 hk1 hS0
  generalize H1 = H at hP hS ⊢
  refine lv_pop hx hb d_L_law_833 rfl ?_
  refine lv_aload_n hx hb d_L_law_834 rfl (lv_at hl 2 rfl) ?_
  have hPc : va_P (dC, dI) vwCl (mW qM cB2 cI cL cZ y) H := (hP.perm List.perm_append_comm).left
  have hDc : va_D (fun q : Nat => s.heap.size ≤ q) (mW qM cB2 cI cL cZ y) := (hD.perm List.perm_append_comm).left
  have hKc : va_K (dC, dI) vwCl (mT cB2 cI cL cZ) s := hK.sub [4, 5, 6, 7] rfl
  have hFc : ∀ q : Nat, va_A (mW qM cB2 cI cL cZ y) H.size q → (fun q : Nat => s.heap.size ≤ q) q := fr_free hD hS hA List.perm_append_comm
  have hS0 := hS
  refine va_calli (va_runV (As := []) (rest := []) ⟨hx, hb, hml, hown, hw0⟩ (u_isDown l dC dI H.size qM cB2 cI cL cZ y σ hsg hm) (cwV 0 hw0 (gd_Vm wm_721 wm_722 wm_723 wm_243 wm_724) rfl rfl rfl (by decide +kernel) ⟨by decide +kernel, by decide +kernel⟩) (prV_E hPc hKc hDc hN (va_recv hKc hPc (ci := 7) (q0 := 0) rfl rfl)) rfl rfl hl.1 rfl (lv_room (Nat.le_of_ble_eq_true rfl)) d_L_law_835 ⟨hcc, hss⟩) hS (fun q _ h => hFc q h) hFc (fun r2 u t H1 locs ht hvm hw2 hB hz1 hk1 hS => ?_)
  obtain ⟨y2, ⟨hm2, hth⟩, hP1, hK1, hD1⟩ := hB
  rw [ht] at hP1
  obtain ⟨hP, hD⟩ := fr_wld (W2 := ((([(qo, .inl (cO, 1, .inr (.inl (fo))))] : va_W) ++ kW qK cB cD cR x2 ds2) ++ mW qM cB2 cI cL cZ y2)) (A := (fun q : Nat => s.heap.size ≤ q)) (fun q hq => hA q (Nat.le_trans hS0.1 hq)) hP hD List.perm_append_comm hk1 hP1 hD1 (kz List.perm_append_comm)
  clear hPc hDc hKc hFc hP1 hD1 hK1 hk1 hS0
  generalize H1 = H at hP hS ⊢
  refine W.widen (k := c0 + 2) (n := s0 + 264) (Nat.le_refl _) (Nat.le_refl _) ?_
  refine lv_pop hx hb d_L_law_838 rfl ?_
  refine lv_goto (tgt := 842) hx hb d_L_law_839 (by decide) ?_
  exact kk _ x2 ds2 y2 fo _ _ ls hsg hk2 hm2 hP hD hS (lv_sub hl [0, 1, 2, 3, 4] rfl)
end
section
set_option maxHeartbeats 8000000 in
set_option maxRecDepth 100000 in
theorem lw_loop {p : Program} {e : Env} {s : State} {m : MethodId} {below : List Frame} {meth : Method} {c : Code} (l : Launch) (hl9 : l.stackTraces = false) {b L : Nat} {xs : Nat → Int32} (hL : L ≤ 3072) (C0 : lw_At p s m meth c b L xs) {dC : Nat → ClassId} {dI : Nat → Nat → Nat} (qK qM qo : Nat) (cB cD cR cO cB2 cI cL cZ : ClassId) (hN : nw_ok s) (hTw : tw_ok s) (hnc : nc_ok s) (hK : va_K (dC, dI) vwCl [(cO, .long), (cB, .byte), (cD, .object R_D), (cR, .object R_V), (cB2, .byte), (cI, .int), (cL, .short), (cZ, .boolean)] s) : ∀ (n j : Nat), 513 ≤ j + n → 6 * j ≤ L → ∀ (σ : Sg) (x : KX) (ds : Nat → Option Dc) (y : MY) (fo : Nat → Int64) (H : Heap) (locs : List Loc) (ls : Array Slot), sOk σ → kOk σ x ds → mOk σ y → va_P (dC, dI) vwCl ((([(qo, .inl (cO, 1, .inr (.inl (fo))))] : va_W) ++ kW qK cB cD cR x ds) ++ mW qM cB2 cI cL cZ y) H → va_D (fun q : Nat => s.heap.size ≤ q) ((([(qo, .inl (cO, 1, .inr (.inl (fo))))] : va_W) ++ kW qK cB cD cR x ds) ++ mW qM cB2 cI cL cZ y) → va_S (fun q : Nat => s.heap.size ≤ q) s.heap H locs → lv_has ls 7 [(4, .int (nI (6 * j))), (3, .ref qo), (2, .ref qM), (1, .ref qK), (0, .ref b)] → W p l e room_1 s m #[Value.ref b] below meth c H locs (32 + 2 * j) (26000 + 264 * j) (lw_Z below #[Value.ref b] s) (F0 m 23 ls []) := by
  obtain ⟨hx, hb, hr, hml, hown, hts, hX, hbl, hlocks, hgv⟩ := id C0
  have hw0 : ∀ w ∈ w0, w.before #[Value.ref b] s = true := fun w h => hts w (w0_ok w h).1
  have hA : ∀ q : Nat, s.heap.size ≤ q → (fun q : Nat => s.heap.size ≤ q) q := fun _ h => h
  have hbA : ¬ (fun q : Nat => s.heap.size ≤ q) b := Nat.not_le.mpr hbl
  intro n
  induction n with
  | zero =>
    intro j h1 h2
    omega
  | succ n ih =>
    intro j h1 h2 σ x ds y fo H locs ls hsg hk hm hP hD hS hl
    have hj : j ≤ 512 := by omega
    have hkk : 6 * j + 6 ≤ L → (∀ (σ : Sg) (x : KX) (ds : Nat → Option Dc) (y : MY) (fo : Nat → Int64) (H : Heap) (locs : List Loc) (ls : Array Slot), sOk σ → kOk σ x ds → mOk σ y → va_P (dC, dI) vwCl ((([(qo, .inl (cO, 1, .inr (.inl (fo))))] : va_W) ++ kW qK cB cD cR x ds) ++ mW qM cB2 cI cL cZ y) H → va_D (fun q : Nat => s.heap.size ≤ q) ((([(qo, .inl (cO, 1, .inr (.inl (fo))))] : va_W) ++ kW qK cB cD cR x ds) ++ mW qM cB2 cI cL cZ y) → va_S (fun q : Nat => s.heap.size ≤ q) s.heap H locs → lv_has ls 7 [(4, .int (nI (6 * j))), (3, .ref qo), (2, .ref qM), (1, .ref qK), (0, .ref b)] → W p l e room_1 s m #[Value.ref b] below meth c H locs (32 + 2 * j + 2) (26000 + 264 * j + 264) (lw_Z below #[Value.ref b] s) (F0 m 842 ls [])) := by
      intro hi σ x ds y fo H locs ls hsg hk hm hP hD hS hl
      obtain ⟨x_1, ex_1⟩ : ∃ y : Int32, y = (nI (6 * j)) + 6 := ⟨_, rfl⟩
      refine lv_iinc (v := x_1) (lv' := [(4, .int x_1), (3, .ref qo), (2, .ref qM), (1, .ref qK), (0, .ref b)]) hx hb d_L_law_842 hl (k := 0) rfl (by rw [ex_1]; rfl) (by decide) rfl (fun ls hl => ?_)
      refine lv_goto (tgt := 23) hx hb d_L_law_845 (by decide) ?_
      obtain rfl : x_1 = nI (6 * (j + 1)) := ex_1.trans (nI_add (6 * j) 6)
      exact ih (j + 1) (by omega) (by omega) _ _ _ _ _ _ _ _ hsg hk hm hP hD hS (lv_sub hl [0, 1, 2, 3, 4] rfl)
    refine lv_iload hx hb d_L_law_23 (lv_at hl 0 rfl) ?_
    refine lv_aload_n hx hb d_L_law_25 rfl (lv_at hl 4 rfl) ?_
    refine va_slen hx hb hX hbl hbA hS d_L_law_26 ?_
    refine lv_bipush (v := 6) hx hb d_L_law_27 (by decide +kernel) ?_
    refine lv_isub hx hb d_L_law_29 ?_
    refine lv_topi (fun x9 ex9 => ?_)
    refine lv_icmp_gt (tgt := 848) hx hb d_L_law_30 (by decide) (fun c_1 => ?_) (fun c_1 => ?_)
    · refine lv_iconst (v := 1) hx hb d_L_law_848 (by decide) ?_
      refine va_forget (fun q hq => hS.2.2 q hq) ?_
      refine W.widen (k := 601024) (n := 7293033) (by omega) (by omega) ?_
      exact lw_ret hx hb hr hlocks d_L_law_849
    · have hi : 6 * j + 6 ≤ L := x_Li hL (by omega) (by rw [← ex9]; exact c_1)
      refine lv_aload_n hx hb d_L_law_33 rfl (lv_at hl 4 rfl) ?_
      refine lv_iload hx hb d_L_law_34 (lv_at hl 0 rfl) ?_
      refine va_sld hx hb hX hbl hbA hS (x_inK (Nat.le_refl L) (by omega) (nI_pos (by omega)) (nI_ge (by omega) (by omega))) d_L_law_36 ?_
      refine lv_bipush (v := 31) hx hb d_L_law_37 (by decide +kernel) ?_
      refine lv_iand hx hb d_L_law_39 ?_
      obtain ⟨j9, hj9, ej9⟩ := pk_andE ((xs (Int32.toNatClampNeg (nI (6 * j))))) (m := 31) 5 (by decide +kernel)
      refine lv_topi (fun x_2 ex_2 => ?_)
      obtain rfl : x_2 = nI j9 := ex_2.trans ej9
      have hcase : j9 = 0 ∨ j9 = 1 ∨ j9 = 2 ∨ j9 = 3 ∨ j9 = 4 ∨ j9 = 5 ∨ j9 = 6 ∨ j9 = 7 ∨ j9 = 8 ∨ j9 = 9 ∨ j9 = 10 ∨ j9 = 11 ∨ j9 = 12 ∨ j9 = 13 ∨ j9 = 14 ∨ j9 = 15 ∨ j9 = 16 ∨ j9 = 17 ∨ j9 = 18 ∨ 18 < j9 := by omega
      rcases hcase with rfl | rfl | rfl | rfl | rfl | rfl | rfl | rfl | rfl | rfl | rfl | rfl | rfl | rfl | rfl | rfl | rfl | rfl | rfl | h18
      · refine lv_tableIn (tgt := 132) hx hb d_L_law_40 (by decide +kernel) (by decide +kernel) rfl (by decide) ?_
        exact lw_c_0 l hl9 hL C0 qK qM qo cB cD cR cO cB2 cI cL cZ fo x ds y σ (6 * j) (32 + 2 * j) (26000 + 264 * j) (by omega) (by omega) (by omega) hsg hk hm hN hTw hnc hK _ _ hP hD hS ls (lv_sub hl [0, 1, 2, 3, 4] rfl) (hkk hi)
      · refine lv_tableIn (tgt := 208) hx hb d_L_law_40 (by decide +kernel) (by decide +kernel) rfl (by decide) ?_
        exact lw_c_1 l hl9 hL C0 qK qM qo cB cD cR cO cB2 cI cL cZ fo x ds y σ (6 * j) (32 + 2 * j) (26000 + 264 * j) (by omega) (by omega) (by omega) hsg hk hm hN hTw hnc hK _ _ hP hD hS ls (lv_sub hl [0, 1, 2, 3, 4] rfl) (hkk hi)
      · refine lv_tableIn (tgt := 236) hx hb d_L_law_40 (by decide +kernel) (by decide +kernel) rfl (by decide) ?_
        exact lw_c_2 l hl9 hL C0 qK qM qo cB cD cR cO cB2 cI cL cZ fo x ds y σ (6 * j) (32 + 2 * j) (26000 + 264 * j) (by omega) (by omega) (by omega) hsg hk hm hN hTw hnc hK _ _ hP hD hS ls (lv_sub hl [0, 1, 2, 3, 4] rfl) (hkk hi)
      · refine lv_tableIn (tgt := 252) hx hb d_L_law_40 (by decide +kernel) (by decide +kernel) rfl (by decide) ?_
        exact lw_c_3 l hl9 hL C0 qK qM qo cB cD cR cO cB2 cI cL cZ fo x ds y σ (6 * j) (32 + 2 * j) (26000 + 264 * j) (by omega) (by omega) (by omega) hsg hk hm hN hTw hnc hK _ _ hP hD hS ls (lv_sub hl [0, 1, 2, 3, 4] rfl) (hkk hi)
      · refine lv_tableIn (tgt := 320) hx hb d_L_law_40 (by decide +kernel) (by decide +kernel) rfl (by decide) ?_
        exact lw_c_4 l hl9 hL C0 qK qM qo cB cD cR cO cB2 cI cL cZ fo x ds y σ (6 * j) (32 + 2 * j) (26000 + 264 * j) (by omega) (by omega) (by omega) hsg hk hm hN hTw hnc hK _ _ hP hD hS ls (lv_sub hl [0, 1, 2, 3, 4] rfl) (hkk hi)
      · refine lv_tableIn (tgt := 360) hx hb d_L_law_40 (by decide +kernel) (by decide +kernel) rfl (by decide) ?_
        exact lw_c_5 l hl9 hL C0 qK qM qo cB cD cR cO cB2 cI cL cZ fo x ds y σ (6 * j) (32 + 2 * j) (26000 + 264 * j) (by omega) (by omega) (by omega) hsg hk hm hN hTw hnc hK _ _ hP hD hS ls (lv_sub hl [0, 1, 2, 3, 4] rfl) (hkk hi)
      · refine lv_tableIn (tgt := 388) hx hb d_L_law_40 (by decide +kernel) (by decide +kernel) rfl (by decide) ?_
        exact lw_c_6 l hl9 hL C0 qK qM qo cB cD cR cO cB2 cI cL cZ fo x ds y σ (6 * j) (32 + 2 * j) (26000 + 264 * j) (by omega) (by omega) (by omega) hsg hk hm hN hTw hnc hK _ _ hP hD hS ls (lv_sub hl [0, 1, 2, 3, 4] rfl) (hkk hi)
      · refine lv_tableIn (tgt := 404) hx hb d_L_law_40 (by decide +kernel) (by decide +kernel) rfl (by decide) ?_
        exact lw_c_7 l hl9 hL C0 qK qM qo cB cD cR cO cB2 cI cL cZ fo x ds y σ (6 * j) (32 + 2 * j) (26000 + 264 * j) (by omega) (by omega) (by omega) hsg hk hm hN hTw hnc hK _ _ hP hD hS ls (lv_sub hl [0, 1, 2, 3, 4] rfl) (hkk hi)
      · refine lv_tableIn (tgt := 444) hx hb d_L_law_40 (by decide +kernel) (by decide +kernel) rfl (by decide) ?_
        exact lw_c_8 l hl9 hL C0 qK qM qo cB cD cR cO cB2 cI cL cZ fo x ds y σ (6 * j) (32 + 2 * j) (26000 + 264 * j) (by omega) (by omega) (by omega) hsg hk hm hN hTw hnc hK _ _ hP hD hS ls (lv_sub hl [0, 1, 2, 3, 4] rfl) (hkk hi)
      · refine lv_tableIn (tgt := 472) hx hb d_L_law_40 (by decide +kernel) (by decide +kernel) rfl (by decide) ?_
        exact lw_c_9 l hl9 hL C0 qK qM qo cB cD cR cO cB2 cI cL cZ fo x ds y σ (6 * j) (32 + 2 * j) (26000 + 264 * j) (by omega) (by omega) (by omega) hsg hk hm hN hTw hnc hK _ _ hP hD hS ls (lv_sub hl [0, 1, 2, 3, 4] rfl) (hkk hi)
      · refine lv_tableIn (tgt := 512) hx hb d_L_law_40 (by decide +kernel) (by decide +kernel) rfl (by decide) ?_
        exact lw_c_10 l hl9 hL C0 qK qM qo cB cD cR cO cB2 cI cL cZ fo x ds y σ (6 * j) (32 + 2 * j) (26000 + 264 * j) (by omega) (by omega) (by omega) hsg hk hm hN hTw hnc hK _ _ hP hD hS ls (lv_sub hl [0, 1, 2, 3, 4] rfl) (hkk hi)
      · refine lv_tableIn (tgt := 564) hx hb d_L_law_40 (by decide +kernel) (by decide +kernel) rfl (by decide) ?_
        exact lw_c_11 l hl9 hL C0 qK qM qo cB cD cR cO cB2 cI cL cZ fo x ds y σ (6 * j) (32 + 2 * j) (26000 + 264 * j) (by omega) (by omega) (by omega) hsg hk hm hN hTw hnc hK _ _ hP hD hS ls (lv_sub hl [0, 1, 2, 3, 4] rfl) (hkk hi)
      · refine lv_tableIn (tgt := 616) hx hb d_L_law_40 (by decide +kernel) (by decide +kernel) rfl (by decide) ?_
        exact lw_c_12 l hl9 hL C0 qK qM qo cB cD cR cO cB2 cI cL cZ fo x ds y σ (6 * j) (32 + 2 * j) (26000 + 264 * j) (by omega) (by omega) (by omega) hsg hk hm hN hTw hnc hK _ _ hP hD hS ls (lv_sub hl [0, 1, 2, 3, 4] rfl) (hkk hi)
      · refine lv_tableIn (tgt := 680) hx hb d_L_law_40 (by decide +kernel) (by decide +kernel) rfl (by decide) ?_
        exact lw_c_13 l hl9 hL C0 qK qM qo cB cD cR cO cB2 cI cL cZ fo x ds y σ (6 * j) (32 + 2 * j) (26000 + 264 * j) (by omega) (by omega) (by omega) hsg hk hm hN hTw hnc hK _ _ hP hD hS ls (lv_sub hl [0, 1, 2, 3, 4] rfl) (hkk hi)
      · refine lv_tableIn (tgt := 708) hx hb d_L_law_40 (by decide +kernel) (by decide +kernel) rfl (by decide) ?_
        exact lw_c_14 l hl9 hL C0 qK qM qo cB cD cR cO cB2 cI cL cZ fo x ds y σ (6 * j) (32 + 2 * j) (26000 + 264 * j) (by omega) (by omega) (by omega) hsg hk hm hN hTw hnc hK _ _ hP hD hS ls (lv_sub hl [0, 1, 2, 3, 4] rfl) (hkk hi)
      · refine lv_tableIn (tgt := 772) hx hb d_L_law_40 (by decide +kernel) (by decide +kernel) rfl (by decide) ?_
        exact lw_c_15 l hl9 hL C0 qK qM qo cB cD cR cO cB2 cI cL cZ fo x ds y σ (6 * j) (32 + 2 * j) (26000 + 264 * j) (by omega) (by omega) (by omega) hsg hk hm hN hTw hnc hK _ _ hP hD hS ls (lv_sub hl [0, 1, 2, 3, 4] rfl) (hkk hi)
      · refine lv_tableIn (tgt := 788) hx hb d_L_law_40 (by decide +kernel) (by decide +kernel) rfl (by decide) ?_
        exact lw_c_16 l hl9 hL C0 qK qM qo cB cD cR cO cB2 cI cL cZ fo x ds y σ (6 * j) (32 + 2 * j) (26000 + 264 * j) (by omega) (by omega) (by omega) hsg hk hm hN hTw hnc hK _ _ hP hD hS ls (lv_sub hl [0, 1, 2, 3, 4] rfl) (hkk hi)
      · refine lv_tableIn (tgt := 816) hx hb d_L_law_40 (by decide +kernel) (by decide +kernel) rfl (by decide) ?_
        exact lw_c_17 l hl9 hL C0 qK qM qo cB cD cR cO cB2 cI cL cZ fo x ds y σ (6 * j) (32 + 2 * j) (26000 + 264 * j) (by omega) (by omega) (by omega) hsg hk hm hN hTw hnc hK _ _ hP hD hS ls (lv_sub hl [0, 1, 2, 3, 4] rfl) (hkk hi)
      · refine lv_tableIn (tgt := 829) hx hb d_L_law_40 (by decide +kernel) (by decide +kernel) rfl (by decide) ?_
        exact lw_c_18 l hl9 hL C0 qK qM qo cB cD cR cO cB2 cI cL cZ fo x ds y σ (6 * j) (32 + 2 * j) (26000 + 264 * j) (by omega) (by omega) (by omega) hsg hk hm hN hTw hnc hK _ _ hP hD hS ls (lv_sub hl [0, 1, 2, 3, 4] rfl) (hkk hi)
      · refine lv_tableOut (tgt := 842) hx hb d_L_law_40 (Or.inr (by rw [nI_toInt (by omega)]; omega)) (by decide) ?_
        refine W.widen (k := 32 + 2 * j + 2) (n := 26000 + 264 * j + 264) (by omega) (by omega) ?_
        exact hkk hi σ x ds y fo _ _ ls hsg hk hm hP hD hS (lv_sub hl [0, 1, 2, 3, 4] rfl)
end
