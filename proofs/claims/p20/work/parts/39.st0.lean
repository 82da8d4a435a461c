def sg0 : Sg := (false, none, [], 0, fun _ => none, [], (-1))
theorem sOk_0 : sOk sg0 := sOk.mk (fun _ h => by cases h) (fun h => by cases h) ⟨Nat.zero_le _, fun _ h => by cases h⟩ (Nat.zero_le _) (fun _ _ h => by cases h) (Nat.zero_le _) ⟨Nat.zero_le _, fun _ h => by cases h⟩
abbrev kx0 (hd hb1 hy hf hfy hc hcy hmk hta hty hba hby hwr hrw hp qp : Nat) : KX := (hd, hb1, hy, hf, hfy, hc, hcy, hmk, hta, hty, hba, hby, hwr, hrw, hp, 0, 0, 0, 0, (-1), 0, .ref qp, 0, 0, 0, 0, 0, 0, fun _ => 0, fun _ => 0, fun _ => 0, fun _ => 0, fun _ => 0, fun _ => 0)
theorem kOk_0 (hd hb1 hy hf hfy hc hcy hmk hta hty hba hby hwr hrw hp qp : Nat) : kOk sg0 (kx0 hd hb1 hy hf hfy hc hcy hmk hta hty hba hby hwr hrw hp qp) (fun _ => none) :=
  kOk.mk rfl (fun _ => ⟨rfl, fun w h => by cases h⟩) rfl rfl rfl (fun _ _ h => by cases h) (fun _ _ _ h => by cases h) ⟨tx_nil _, Nat.zero_le _⟩ ⟨tx_nil _, Nat.zero_le _⟩ ⟨[], tx_nil _, Nat.zero_le _⟩ ⟨[], tx_nil _, Nat.zero_le _⟩ ⟨[], tx_nil _, Nat.zero_le _⟩
abbrev my0 (hbu hgo hfi hma hln hau hsu hrow hmade hbase htx9 hot hpc : Nat) (fl : Nat → Int32) : MY := (hbu, hgo, hfi, hma, hln, hau, hsu, hrow, hmade, hbase, htx9, hot, hpc, 0, 0, (-1), 0, 0, 0, 0, (-1), (-1), 0, 0, 0, 0, 0, fun _ => 0, fun _ => 0, fun _ => 0, fun _ => 0, fl, fun _ => 0, fun _ => 0, fun _ => 0, fun _ => 0, fun _ => 0, fun _ => 0, fun _ => 0, fun _ => 0)
theorem pqS_0 : pqS (fun _ => none) = fun _ => none := rfl
theorem cat_0 : ∀ n, cat (fun _ => none) n = []
  | 0 => rfl
  | n + 1 => by
    show fl (pcL (fun _ => none)) n ++ pcL (fun _ => none) n = []
    rw [show fl (pcL (fun _ => none)) n = [] from cat_0 n]
    rfl
theorem mOk_0 (hbu hgo hfi hma hln hau hsu hrow hmade hbase htx9 hot hpc : Nat) (fl : Nat → Int32) (hfl : ∀ i, i < 512 → fl i = (-1)) : mOk sg0 (my0 hbu hgo hfi hma hln hau hsu hrow hmade hbase htx9 hot hpc fl) := by
  refine mOk.mk rfl rfl rfl (tx_nil _) rfl (fun i _ => ⟨fun _ => rfl, fun h => absurd h (Nat.not_lt_zero _), fun _ => rfl⟩) (fun i _ => ⟨fun _ h => (by cases h), fun _ => ⟨rfl, rfl⟩⟩) (fun j hj => ?_) ?_ (fun _ _ _ _ _ _ h => by cases h) (Or.inr ⟨rfl, rfl⟩) rfl
  · show fl j = _
    rw [hfl j hj]
    rfl
  · show rowOk (pqS (fun _ => none)) _
    unfold rowOk
    rw [pqS_0, cat_0]
    unfold sx
    simp
theorem pW_0 (cB cR : ClassId) : pW cB cR (fun _ => none) = [] := rfl
theorem kW_0 (h0 : Nat) (cB cD cR : ClassId) (hd hb1 hy hf hfy hc hcy hmk hta hty hba hby hwr hrw hp qp : Nat) : kW h0 cB cD cR (kx0 hd hb1 hy hf hfy hc hcy hmk hta hty hba hby hwr hrw hp qp) (fun _ => none) = [(h0, .inr (0, [.ref hd, .ref hb1, .ref hf, .ref hc, .ref hmk, .ref hwr, .ref hp, .int 0, .int (-1)])), (hp, .inr (4, [.int 0, .int 0, .int 0])), (hd, .inl (cD, 8, .inr (.inr (.inr (.inr (fun _ => none)))))), (hmk, .inr (2, [.ref hba, .ref hta, .ref qp, .int 0])), (hta, .inr (1, [.ref hty, .int 0])), (hty, .inl (cB, 256, .inl (fun _ => 0))), (hba, .inr (1, [.ref hby, .int 0])), (hby, .inl (cB, 256, .inl (fun _ => 0))), (hwr, .inr (3, [.ref hrw, .int 0])), (hrw, .inl (cB, 512, .inl (fun _ => 0))), (hb1, .inr (1, [.ref hy, .int 0])), (hy, .inl (cB, 256, .inl (fun _ => 0))), (hf, .inr (1, [.ref hfy, .int 0])), (hfy, .inl (cB, 256, .inl (fun _ => 0))), (hc, .inr (1, [.ref hcy, .int 0])), (hcy, .inl (cB, 256, .inl (fun _ => 0)))] := by
  unfold kW
  rw [pW_0, List.append_nil]
  rfl
