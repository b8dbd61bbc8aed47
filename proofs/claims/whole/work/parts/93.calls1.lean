/-! calls that only tell, without the law in force -/
theorem LC.pu {yD yM : zMt} {nD nM : Nat} {fD fM : List zV → zMem → Int} {gD gM : List zV → zMem → Prop} {as : List zV} (pD : zPu yD nD fD gD) (pM : zPu yM nM fM gM) (hn : nD ≤ 100 ∧ nM ≤ 100) (h : ∀ (k : Int) (μ : zMem), JJ k μ μ → gD (vr 0 :: as) μ ∧ gM (vr 355 :: as) μ ∧ fD (vr 0 :: as) μ = fM (vr 355 :: as) μ) : LC yD yM as := by
  intro k μ h0 h1 hJ
  obtain ⟨a, b, c⟩ := h k μ hJ
  refine zCw.use (pD _ _ a) (by omega) (fun q μ1 e => ?_)
  obtain ⟨rfl, rfl⟩ := e
  refine ⟨_, rfl, zCw.use (pM _ _ b) (by omega) (fun q μ2 e => ?_)⟩
  obtain ⟨rfl, rfl⟩ := e
  rw [c]
  exact ⟨rfl, hJ.t (by omega) KC.rf KM.rf⟩
theorem LC_blots : LC y_D_blots y_M_blots [] := LC.pu p_D_blots p_M_blots (by decide) (fun k μ h => ⟨⟨rfl, trivial⟩, ⟨rfl, trivial⟩, h.2.2.2.2.1.2.1.symm⟩)
theorem LC_fault : LC y_D_fault y_M_fault [] := LC.pu p_D_fault p_M_fault (by decide) (fun k μ h => ⟨⟨rfl, trivial⟩, ⟨rfl, trivial⟩, by
  obtain ⟨n, a⟩ := h.2.2.2.1
  exact a.2.2.2.2.1.symm⟩)
theorem LC_stopped : LC y_D_stopped y_M_stopped [] := LC.pu p_D_stopped p_M_stopped (by decide) (fun k μ h => ⟨⟨rfl, trivial⟩, ⟨rfl, trivial⟩, h.2.2.2.2.1.2.2.1.symm⟩)
theorem LC_status : LC y_D_status y_M_status [] := LC.pu p_D_status p_M_status (by decide) (fun k μ h => ⟨⟨rfl, trivial⟩, ⟨rfl, trivial⟩, h.2.2.2.2.1.1.symm⟩)
theorem LC_of {p w : Int} : LC y_D_of y_M_of [vi p, vi w] := LC.pu p_D_of p_M_of (by decide) (fun k μ h => by
  obtain ⟨a1, a2, a3, -⟩ := h.1
  refine ⟨⟨rfl, a1.1.2⟩, ⟨rfl, by rw [a1.2]; exact a1.1⟩, ?_⟩
  show (if (0 ≤ p ∧ p < μ 1 6) then (if w = 0 then μ 3 p else if w = 1 then μ 8 p else if w = 2 then μ 9 p else -1) else -1) = (if (0 ≤ p ∧ p < μ 357 152) then (if w = 0 then μ 357 p else if w = 1 then μ 357 (73 + 2 * p) else if w = 2 then μ 357 (74 + 2 * p) else -1) else -1)
  rw [a1.2]
  by_cases c : 0 ≤ p ∧ p < μ 1 6
  · have hp : p < 7 := by have := a1.1; omega
    rw [a2.2 p c.1 hp, (a3 p c.1 hp).1.1, (a3 p c.1 hp).2.1]
  · rw [if_neg c, if_neg c])
theorem TD.m {T : zMem} {κ : Int → Int} (h : TD T κ) {μ : zMem} (hk : μ 357 = κ) : okT (μ 357 71) (fM μ) ∧ dbM μ = dbD T ∧ μ 357 71 = T 2 5 ∧ ∀ i : Int, 0 ≤ i → i < T 2 5 → fM μ i = fD T i := by
  obtain ⟨a, b, c⟩ := h
  have e : dbM μ = dbD T := by rw [← c, ← hk]; rfl
  have e7 : μ 357 71 = T 2 5 := by rw [hk]; exact b
  have e3 : ∀ i : Int, 0 ≤ i → i < T 2 5 → fM μ i = fD T i := by
    intro i h0 h1
    have x1 : gL (fD T i) (dbM μ) i = fM μ i := by
      unfold dbM
      rw [gL_tL h0 (by rw [e7]; omega)]
    rw [← x1, e]
    unfold dbD
    rw [gL_tL h0 (by omega)]
  refine ⟨⟨by rw [e7]; exact a.1, fun j h0 h1 => ?_⟩, e, e7, e3⟩
  rw [e7] at h1
  rw [e3 j h0 h1]
  exact a.2 j h0 h1
theorem LC_owes {a b : Int} : LC y_D_owes y_M_owes [vi a, vi b] := LC.pu p_D_owes p_M_owes (by decide) (fun k μ h => by
  obtain ⟨a1, a2, a3, a4, -⟩ := h.1
  obtain ⟨b1, b2, b3, b4⟩ := a4.m rfl
  refine ⟨⟨rfl, a4.1⟩, ⟨rfl, b1, by rw [a1.2]; exact a1.1⟩, ?_⟩
  show (if a ≠ b ∧ (0 ≤ a ∧ a < μ 1 6) ∧ 0 ≤ b ∧ b < μ 1 6 then owL a b (dbD μ) else -1) = (if a ≠ b ∧ (0 ≤ a ∧ a < μ 357 152) ∧ 0 ≤ b ∧ b < μ 357 152 then owL a b (dbM μ) else -1)
  rw [a1.2, b2])
theorem LC_balance {a : Int} : LC y_D_balance y_M_balance [vi a] := LC.pu p_D_balance p_M_balance (by decide) (fun k μ h => by
  obtain ⟨a1, a2, a3, a4, -⟩ := h.1
  obtain ⟨b1, b2, b3, b4⟩ := a4.m rfl
  refine ⟨⟨rfl, a4.1⟩, ⟨rfl, b1, by rw [a1.2]; exact a1.1⟩, ?_⟩
  show (if 0 ≤ a ∧ a < μ 1 6 then blL a (dbD μ) else -1000000) = (if 0 ≤ a ∧ a < μ 357 152 then blL a (dbM μ) else -1000000)
  rw [a1.2, b2])
theorem LC_count {w : Int} : LC y_D_count y_M_count [vi w] := LC.pu p_D_count p_M_count (by decide) (fun k μ h => by
  obtain ⟨⟨a1, a2, a3, a4, a5, a6, a7, a8, a9, a10⟩, b, -, ⟨n, c1, c2, -⟩, e, -, -⟩ := h
  refine ⟨⟨rfl, trivial⟩, ⟨rfl, trivial⟩, ?_⟩
  show (if w = 0 then μ 1 6 else if w = 1 then μ 2 5 else if w = 2 then μ 1 8 else if w = 3 then μ 1 9 else if w = 4 then μ 1 10 else if w = 5 then μ 111 3 else if w = 6 then μ 321 2 else if w = 7 then μ 354 1 else if w = 8 then μ 354 2 else if w = 9 then μ 354 3 else if w = 10 then μ 354 5 else if w = 11 then μ 354 6 else if w = 12 then μ 1 11 else if w = 13 then μ 2 6 else if w = 14 then μ 1 7 else -1) = (if w = 0 then μ 357 152 else if w = 1 then μ 357 71 else if w = 2 then μ 357 153 else if w = 3 then μ 357 154 else if w = 4 then μ 357 155 else if w = 5 then μ 355 28 else if w = 6 then μ 355 11 else if w = 7 then μ 356 1 else if w = 8 then μ 356 2 else if w = 9 then μ 356 3 else if w = 10 then μ 356 5 else if w = 11 then μ 356 6 else if w = 12 then μ 357 156 else if w = 13 then μ 357 72 else if w = 14 then μ 357 151 else -1)
  rw [a1.2, a4.2.1, a7.2.1, a8.2.1, a9.2.1, b.2.1, c1, c2, (e.2.2.2 1 (by decide) (by decide)).1, (e.2.2.2 2 (by decide) (by decide)).1, (e.2.2.2 3 (by decide) (by decide)).1, (e.2.2.2 5 (by decide) (by decide)).1, (e.2.2.2 6 (by decide) (by decide)).1, a10.1, a5.2, a6.2])

