/-! the law's loop, its two makers -/
section LL
variable {Γ : zCx} {d ce sl : Nat} {b L : Nat} {xs : Nat → Int32}
theorem lw_round {ad : Nat → Nat} (X : zX Γ "DebtDoorsLaw" code 4 d) (V : zLw Γ b L xs) (hd : 102 ≤ d) (hce : ce ≤ (x_R Γ).cells) (hsl : sl ≤ (x_R Γ).slots) (hL : L ≤ 3072) {i kk : Int} {μ : zMem} (h0 : 0 ≤ i) (hi : i ≤ 4000) (hk : 6 * kk ≤ i) (hk0 : 0 ≤ kk) (hJ : JJ kk μ μ) (fin : zG Γ 4 ce sl zT0 ad 1560 [vx 1, vr 0, vr 355, vi i] [] μ) (next : i + 5 < L → ∀ μ', JJ (kk + 1) μ' μ' → zG Γ 4 ce sl zT0 ad 18 [vx 1, vr 0, vr 355, vi (i + 6)] [] μ') : zG Γ 4 ce sl zT0 ad 18 [vx 1, vr 0, vr 355, vi i] [] μ := by
  refine zi_loadn X d_law_18 (i := 3) rfl rfl ?_
  refine zi_aloadn X d_law_19 (i := 0) rfl rfl rfl ?_
  refine zl_len X V hL d_law_20 ?_
  refine zi_bipush X d_law_21 rfl ⟨by decide, by decide⟩ ?_
  refine zi_isub X d_law_23 ⟨by omega, by omega⟩ ?_
  refine zj_gt (tgt := 1560) X d_law_24 (by decide) (fun _ => fin) (fun h => ?_)
  have hi5 : i + 5 < L := by omega
  refine zi_aloadn X d_law_27 (i := 0) rfl rfl rfl ?_
  refine zi_loadn X d_law_28 (i := 3) rfl rfl ?_
  refine zl_ld X V h0 (by omega) d_law_29 ?_
  refine zi_bipush X d_law_30 rfl ⟨by decide, by decide⟩ ?_
  refine zi_iand X d_law_32 ?_
  refine lw_go X V hd hce hsl hL d_law_33 h0 hi5 ⟨hk0, by omega⟩ hJ (fun μ' hJ' => ?_)
  refine zi_inc X d_law_1554 (i := 3) ⟨(by show 3 < 4; decide), rfl⟩ (by decide) rfl ⟨by omega, by omega⟩ ?_
  exact zi_goto (tgt := 18) X d_law_1557 (by decide) (next hi5 μ' hJ')
theorem lw_loop {ad : Nat → Nat} (X : zX Γ "DebtDoorsLaw" code 4 d) (V : zLw Γ b L xs) (hd : 102 ≤ d) (hce : ce ≤ (x_R Γ).cells) (hsl : sl ≤ (x_R Γ).slots) (hL : L ≤ 3072) (fin : ∀ (ρ : List zV) (μ : zMem), zG Γ 4 ce sl zT0 ad 1560 ρ [] μ) : ∀ (n : Nat) (i kk : Int) (μ : zMem), 0 ≤ i → i ≤ 4000 → (L : Int) ≤ i + n → 6 * kk ≤ i → 0 ≤ kk → JJ kk μ μ → zG Γ 4 ce sl zT0 ad 18 [vx 1, vr 0, vr 355, vi i] [] μ
  | 0, i, kk, μ, h0, hi, hn, hk, hk0, hJ => lw_round X V hd hce hsl hL h0 hi hk hk0 hJ (fin _ _) (fun h => absurd h (by omega))
  | n + 1, i, kk, μ, h0, hi, hn, hk, hk0, hJ => lw_round X V hd hce hsl hL h0 hi hk hk0 hJ (fin _ _) (fun h μ' hJ' => lw_loop X V hd hce hsl hL fin n (i + 6) (kk + 1) μ' (by omega) (by omega) (by omega) (by omega) (by omega) hJ')
theorem lw_T1 : zTok (zT0.take 355) = true ∧ (zT0.take 355).length = 355 := ⟨by decide +kernel, by decide +kernel⟩
theorem lw_bD : zblank 11 = [.inr none, .inr none, .inr none, .inr none, .inr none, .inr none, .inr none, .inr none, .inr none, .inr none, .inr none, .inr none, .inr none, .inr none, .inr none, .inl 0, .inl 0, .inl 0, .inl 0, .inl 0] := by decide +kernel
theorem lw_bM : zblank 12 = [.inl 0, .inr none, .inr none, .inr none, .inr none, .inr none, .inl 0, .inr none, .inl 1, .inr none, .inr none, .inl 0, .inl 0, .inr none, .inr none, .inr none, .inl 0, .inl 0, .inl 0, .inl 0, .inl 0, .inl 0, .inl 1, .inl 1, .inr none, .inr none, .inr none, .inr none, .inl 0, .inr none, .inr none, .inr none, .inr none, .inr none, .inl 0, .inr none, .inr none, .inl 0, .inl 0, .inl 0, .inr none, .inr none, .inr none, .inl 0, .inl 0, .inr none, .inr none, .inl 0, .inl 0, .inl 0, .inl 0, .inl 0, .inl 0, .inl 1, .inl 1, .inr none, .inr none, .inr none, .inr none, .inl 0, .inl 0] := by decide +kernel
theorem lw_zin {N : Nat} {l : List zV} (h : l.all (fun v => match v with
  | .inr (.inr (.inl k)) => Nat.blt k N
  | _ => true) = true) : zin N l := fun v hv k e => by
  have := List.all_eq_true.mp h v hv
  subst e
  exact Nat.blt_eq.mp this
theorem lw_zk {N : Nat} {ρ st : List zV} (h : (ρ ++ st).all (fun v => match v with
  | .inr (.inr (.inl k)) => Nat.blt k N
  | _ => true) = true) : ∀ v, (v ∈ ρ ∨ v ∈ st) → ∀ k, v = vr k → k < N := fun v hv => lw_zin h v (List.mem_append.mpr hv)
theorem lwV_D : ∀ x, x ∈ V_D_init → x.1 < 355 := by decide +kernel
theorem lw1_o {k : Nat} (h : 355 ≤ k) (j : Int) : zmd 0 lw0 V_D_init k j = 0 := congrFun (zmd_off V_D_init (fun x hx => by have := lwV_D x hx; omega)) j
theorem lw_body {ad : Nat → Nat} (X : zX Γ "DebtDoorsLaw" code 4 d) (V : zLw Γ b L xs) (hd : 102 ≤ d) (hce : 387 ≤ (x_R Γ).cells) (hsl : 37438 ≤ (x_R Γ).slots) (hL : L ≤ 3072) (fin : ∀ (ad : Nat → Nat) (ρ : List zV) (μ : zMem), zG Γ 4 387 37438 zT0 ad 1560 ρ [] μ) : zG Γ 4 0 0 [] ad 0 [vx 1, vx 0, vx 0, vx 0] [] lw0 := by
  refine zi_new (ci := 11) (r := (RX11, TX11, 20)) X d_law_0 rfl lwn_11.1 lwn_11.2.1 lwn_11.2.2 rfl (lw_zin rfl) (lw_zin rfl) (fun _ => rfl) (by omega) (by show 0 + 20 ≤ _; omega) (fun q => ?_)
  rw [lw_bD, List.nil_append]
  refine zi_dup X d_law_3 rfl ?_
  have k1 := k_D_init (d := 101) (by decide) [] 0 lw0 rfl rfl (fun _ _ _ => rfl)
  rw [List.nil_append, List.nil_append, zT0_D] at k1
  refine zi_I (as := []) (q := 0) (st := [vr 0]) (d' := 101) X lwi_D (by omega) k1 rfl (by decide) d_law_4 (by omega) (by show 0 + 20 + 14453 ≤ _; omega) (lw_zk rfl) (fun r ad' μ' hR had => ?_)
  obtain ⟨rfl, rfl⟩ := hR
  refine zi_astoren X d_law_7 (i := 1) rfl ⟨(by show 1 < 4; decide), rfl⟩ (by decide) rfl ?_
  refine zi_new (ci := 12) (r := (RX12, TX12, 61)) X d_law_8 rfl lwn_12.1 lwn_12.2.1 lwn_12.2.2 lw_T1.1 (by rw [lw_T1.2]; exact lw_zin rfl) (by rw [lw_T1.2]; exact lw_zin rfl) (fun j => by rw [lw_T1.2]; exact lw1_o (Nat.le_refl _) j) (by omega) (by show 0 + 20 + 14453 + 61 ≤ _; omega) (fun q2 => ?_)
  rw [lw_T1.2]
  rw [lw_bM]
  refine zi_dup X d_law_11 rfl ?_
  have k2 := k_M_init (d := 101) (by decide) (zT0.take 355) 355 (zmd 0 lw0 V_D_init) lw_T1.2 lw_T1.1 (fun k hk j => lw1_o (by omega) j)
  rw [zT0_M] at k2
  refine zi_I (as := []) (q := 355) (st := [vr 355]) (d' := 101) X lwi_M (by omega) k2 rfl (by decide) d_law_12 (by omega) (by show 0 + 20 + 14453 + 61 + 22904 ≤ _; omega) ?_ (fun r ad2 μ2 hR2 had2 => ?_)
  · rw [List.length_append, lw_T1.2]
    exact lw_zk rfl
  obtain ⟨rfl, rfl⟩ := hR2
  refine zi_astoren X d_law_15 (i := 2) rfl ⟨(by show 2 < 4; decide), rfl⟩ (by decide) rfl ?_
  refine zi_const X d_law_16 ⟨by decide, by decide⟩ ?_
  refine zi_storen X d_law_17 (i := 3) rfl ⟨(by show 3 < 4; decide), rfl⟩ (by decide) ?_
  exact lw_loop (ce := 387) (sl := 37438) X V hd hce hsl hL (fin ad2) L 0 0 lwM (by omega) (by omega) (by omega) (by omega) (by omega) lw0_J
end LL

