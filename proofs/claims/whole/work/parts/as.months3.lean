/-! a month, the class; both -/
theorem q_Mo_keep {d : Nat} (hd : 1 ≤ d) {μ : zMem} {p a b c : Int} (hp : 0 ≤ p ∧ p < 7) : zSp d 0 0 y_Mo_keep zT0 [vr 351, vi p, vi a, vi b, vi c] μ zT0 (fun q μ' => q = none ∧ μ' = zm (zm (zm μ 352 (p * 3) a) 352 (p * 3 + 1) b) 352 (p * 3 + 2) c) := by
  refine zSp.ss [vr 351, vi p, vi a, vi b, vi c] rfl (w_Mo_keep hd) rfl rfl ?_
  (try simp only [zit_e, Bool.and_eq_true, Bool.or_eq_true, Bool.not_eq_true', Bool.and_eq_false_iff, Bool.or_eq_false_iff, Bool.not_eq_false', zbe, zdt, zdf, zb2_p, zbp_0, zbp_1, zbp_inj, zbp_01, Bool.true_eq_false, Bool.false_eq_true, true_and, and_true, Decidable.not_not, Classical.not_not, implies_true, List.nil_append, List.cons_append, List.append_assoc, Option.some.injEq, Sum.inl.injEq, zSw_c, zSw_n]); (try simp only [zit_e, Bool.and_eq_true, Bool.or_eq_true, Bool.not_eq_true', Bool.and_eq_false_iff, Bool.or_eq_false_iff, Bool.not_eq_false', zbe, zdt, zdf, zb2_p, zbp_0, zbp_1, zbp_inj, zbp_01, Bool.true_eq_false, Bool.false_eq_true, true_and, and_true, Decidable.not_not, Classical.not_not, implies_true, List.nil_append, List.cons_append, List.append_assoc, Option.some.injEq, Sum.inl.injEq, zSw_c, zSw_n, zc_351]); (try simp only [zi_cs, zi_c0, zii_cs, zii_c0, zl_cs, zl_c0, zll_cs, zll_c0, zr_cs, zr_c0, zrr_cs, zrr_c0, zxs_cs, zxs_c0, zxx_cs, zxx_c0, zfree_c0, zfree_c1, zfree_cs, zfree_cz, zlong_i, zlong_r, zlong_x, zset_0, zset_s, true_and, and_true, Option.some.injEq, Sum.inl.injEq, Sum.inr.injEq, zb2_p, zbp_0, zbp_1, zbp_inj, zbp_01, Nat.zero_add, Nat.reduceAdd, implies_true, List.nil_append, List.cons_append, List.append_assoc, Int.not_lt, Int.not_le, Decidable.not_not, Int.zero_add, Int.reduceLE, Int.reduceLT, Int.reduceEq, Int.reduceNe, Int.reduceAdd, Int.reduceSub, Int.reduceMul, Int.reduceNeg, Int.reduceToNat, Nat.reduceMul, Nat.reduceLT, Nat.reduceEqDiff, and_self, ite_true, ite_false, zx1, zx2, zRecv, List.length_cons, List.length_nil, ne_eq, not_true_eq_false, not_false_eq_true, true_or, or_true, or_false, false_or, and_false, false_and, zf01, zf10, reduceCtorEq, zSw_c, zSw_n, zm_r, zit_T, zit_F, false_implies, true_implies, zc_351])
  exact ⟨by ((try simp only [zI_e]); (first | done | omega | skip)), by omega, by omega, ⟨by ((try simp only [zI_e]); (first | done | omega | skip)), by ((try simp only [zI_e]); (first | done | omega | skip))⟩, by omega, by omega, ⟨by ((try simp only [zI_e]); (first | done | omega | skip)), by ((try simp only [zI_e]); (first | done | omega | skip))⟩, by omega, by omega⟩
noncomputable def mthC (Z : Zt) (s m : Int) : Int := zit (¬ (0 ≤ s ∧ s ≤ 1000000) ∨ ¬ (1 ≤ m ∧ m ≤ 30)) (-1) (zit (Z.1 = 0) (-3) 0)
theorem LC_month {s m : Int} : LC y_D_month y_M_month [vi s, vi m] := LC.mk (fun k μ h0 h1 hJ => by
  obtain ⟨Z, F, A, w, hC, hM⟩ := hJ.ctx
  have hr := hJ.rD h0 h1
  have hz := hC.1.1
  obtain ⟨n, hn⟩ : ∃ n : Nat, n = m.toNat := ⟨_, rfl⟩
  obtain ⟨nn, hnn⟩ : ∃ nn : Nat, Z.1 = (nn : Int) := ⟨Z.1.toNat, by omega⟩
  refine ⟨mthC Z s m, fun v μ1 => v = (mnN Z F w A s n).1.2.2 ∧ ∃ X, CTx X Z F A w ∧ (∀ p : Int, 0 ≤ p → p < Z.1 → X 352 (p * 3) = puA (mnN Z F w A s n).1.1 p ∧ X 352 (p * 3 + 1) = blL p (mnN Z F w A s n).1.1.2.1 ∧ X 352 (p * 3 + 2) = onN (doA Z F (mnN Z F w A s n).1.1 w p) 16) ∧ X 351 2 = Z.1 ∧ zfc [2, 3, 4, 5, 6, 7, 105, 106, 107, 108, 109, 110, 325, 326, 327, 351, 352] μ X ∧ μ1 = zm X 0 15 0, fun μ1 v μ2 => v = (mnN Z F w A s n).1.2.2 ∧ MTx μ2 Z F A w ∧ (∀ i : Int, 73 ≤ i → μ2 357 i = μ1 357 i) ∧ (μ2 355 0 = 0 ∧ μ2 355 59 = Z.1 ∧ ∀ j : Int, kfM j → j ≠ 0 → j ≠ 59 → μ2 355 j = μ1 355 j) ∧ (∀ p : Int, 0 ≤ p → p < Z.1 → μ2 384 p = puA (mnN Z F w A s n).1.1 p ∧ μ2 385 p = blL p (mnN Z F w A s n).1.1.2.1 ∧ μ2 386 p = onN (doA Z F (mnN Z F w A s n).1.1 w p) 16) ∧ zfc [355, 357, 360, 367, 384, 385, 386] μ1 μ2, ?_, ?_, ?_, ?_⟩
  · unfold mthC zit
    repeat' split
    all_goals omega
  · refine zCw.use (zSp.ss [vr 0, vi s, vi m, vx 0, vx 0] rfl (w_D_month (d := 100) (by decide)) rfl rfl ?_) (by decide) (fun q μ' e => e)
    (try simp only [zit_e, Bool.and_eq_true, Bool.or_eq_true, Bool.not_eq_true', Bool.and_eq_false_iff, Bool.or_eq_false_iff, Bool.not_eq_false', zbe, zdt, zdf, zb2_p, zbp_0, zbp_1, zbp_inj, zbp_01, Bool.true_eq_false, Bool.false_eq_true, true_and, and_true, Decidable.not_not, Classical.not_not, implies_true, List.nil_append, List.cons_append, List.append_assoc, Option.some.injEq, Sum.inl.injEq, zSw_c, zSw_n]); (try simp only [zit_e, Bool.and_eq_true, Bool.or_eq_true, Bool.not_eq_true', Bool.and_eq_false_iff, Bool.or_eq_false_iff, Bool.not_eq_false', zbe, zdt, zdf, zb2_p, zbp_0, zbp_1, zbp_inj, zbp_01, Bool.true_eq_false, Bool.false_eq_true, true_and, and_true, Decidable.not_not, Classical.not_not, implies_true, List.nil_append, List.cons_append, List.append_assoc, Option.some.injEq, Sum.inl.injEq, zSw_c, zSw_n, zc_0, zc_1, zc_2, zc_351, f_D_between, g_D_between]); (try simp only [zi_cs, zi_c0, zii_cs, zii_c0, zl_cs, zl_c0, zll_cs, zll_c0, zr_cs, zr_c0, zrr_cs, zrr_c0, zxs_cs, zxs_c0, zxx_cs, zxx_c0, zfree_c0, zfree_c1, zfree_cs, zfree_cz, zlong_i, zlong_r, zlong_x, zset_0, zset_s, true_and, and_true, Option.some.injEq, Sum.inl.injEq, Sum.inr.injEq, zb2_p, zbp_0, zbp_1, zbp_inj, zbp_01, Nat.zero_add, Nat.reduceAdd, implies_true, List.nil_append, List.cons_append, List.append_assoc, Int.not_lt, Int.not_le, Decidable.not_not, Int.zero_add, Int.reduceLE, Int.reduceLT, Int.reduceEq, Int.reduceNe, Int.reduceAdd, Int.reduceSub, Int.reduceMul, Int.reduceNeg, Int.reduceToNat, Nat.reduceMul, Nat.reduceLT, Nat.reduceEqDiff, and_self, ite_true, ite_false, zx1, zx2, zRecv, List.length_cons, List.length_nil, ne_eq, not_true_eq_false, not_false_eq_true, true_or, or_true, or_false, false_or, and_false, false_and, zf01, zf10, reduceCtorEq, zSw_c, zSw_n, zm_r, zit_T, zit_F, false_implies, true_implies, zc_0, zc_1, zc_2, zc_351, f_D_between, g_D_between])
    have e6 := hC.2.2.1.1
    rw [e6]
    refine zif (fun c1 => rfD_w (by omega) (by decide) hr ⟨_, rfl, OD.no (zit_t c1) (by decide) PJc.rf⟩) (fun c1 => ?_)
    refine zif (fun c2 => rfD_w (by omega) (by decide) hr ⟨_, rfl, OD.no ((zit_f c1).trans (zit_t c2)) (by decide) PJc.rf⟩) (fun c2 => ?_)
    have ec : mthC Z s m = 0 := (zit_f c1).trans (zit_f c2)
    have em : m = (n : Int) := by omega
    subst em
    refine ⟨zc_105.1.1, pp_w (by omega) hC (fun μ2 hC2 hP2 f2 => ⟨rfl, ?_⟩)⟩
    (try simp only [zit_e, Bool.and_eq_true, Bool.or_eq_true, Bool.not_eq_true', Bool.and_eq_false_iff, Bool.or_eq_false_iff, Bool.not_eq_false', zbe, zdt, zdf, zb2_p, zbp_0, zbp_1, zbp_inj, zbp_01, Bool.true_eq_false, Bool.false_eq_true, true_and, and_true, Decidable.not_not, Classical.not_not, implies_true, List.nil_append, List.cons_append, List.append_assoc, Option.some.injEq, Sum.inl.injEq, zSw_c, zSw_n]); (try simp only [zit_e, Bool.and_eq_true, Bool.or_eq_true, Bool.not_eq_true', Bool.and_eq_false_iff, Bool.or_eq_false_iff, Bool.not_eq_false', zbe, zdt, zdf, zb2_p, zbp_0, zbp_1, zbp_inj, zbp_01, Bool.true_eq_false, Bool.false_eq_true, true_and, and_true, Decidable.not_not, Classical.not_not, implies_true, List.nil_append, List.cons_append, List.append_assoc, Option.some.injEq, Sum.inl.injEq, zSw_c, zSw_n, zc_0, zc_1, zc_2, zc_351]); (try simp only [zi_cs, zi_c0, zii_cs, zii_c0, zl_cs, zl_c0, zll_cs, zll_c0, zr_cs, zr_c0, zrr_cs, zrr_c0, zxs_cs, zxs_c0, zxx_cs, zxx_c0, zfree_c0, zfree_c1, zfree_cs, zfree_cz, zlong_i, zlong_r, zlong_x, zset_0, zset_s, true_and, and_true, Option.some.injEq, Sum.inl.injEq, Sum.inr.injEq, zb2_p, zbp_0, zbp_1, zbp_inj, zbp_01, Nat.zero_add, Nat.reduceAdd, implies_true, List.nil_append, List.cons_append, List.append_assoc, Int.not_lt, Int.not_le, Decidable.not_not, Int.zero_add, Int.reduceLE, Int.reduceLT, Int.reduceEq, Int.reduceNe, Int.reduceAdd, Int.reduceSub, Int.reduceMul, Int.reduceNeg, Int.reduceToNat, Nat.reduceMul, Nat.reduceLT, Nat.reduceEqDiff, and_self, ite_true, ite_false, zx1, zx2, zRecv, List.length_cons, List.length_nil, ne_eq, not_true_eq_false, not_false_eq_true, true_or, or_true, or_false, false_or, and_false, false_and, zf01, zf10, reduceCtorEq, zSw_c, zSw_n, zm_r, zit_T, zit_F, false_implies, true_implies, zc_0, zc_1, zc_2, zc_351])
    refine zCw.use (q_Mo_pass (d := 10) (by decide) hC2 (s := s) (n := n) (by omega) (by omega) (by omega)) (by decide) (fun q μ3 e => ?_)
    obtain ⟨rfl, hC3, g3, f3⟩ := e
    have hok := mnN_ok (F := F) (w := w) (s := s) hC.1 hC.2.1 (by omega) n
    have hP3 : PpC A μ3 := hP2.c (fun c p q => f3 c (by simp only [List.mem_cons, List.not_mem_nil, or_false]; omega))
    have hf3 : zfc [2, 3, 4, 5, 6, 7, 105, 106, 107, 108, 109, 110, 325, 326, 327, 351, 352] μ μ3 := (f2.tr f3).mo (by simp)
    refine ⟨_, rfl, ?_⟩
    generalize mnN Z F w A s n = X at *
    have hBd := fun (p : Nat) (hp : p < nn) => bsN_lt (p := fun o => o ≠ (p : Int) ∧ 0 < dnA Z F X.1.1 w o p) Z.1.toNat
    refine zLoop.up nn (fun p ρ ν => ρ = [vr 0, vi s, vi n, vi X.1.2.2, vi p] ∧ CTx ν Z F X.1.1 w ∧ (∀ q : Int, 0 ≤ q → q < p → ν 352 (q * 3) = puA X.1.1 q ∧ ν 352 (q * 3 + 1) = blL q X.1.1.2.1 ∧ ν 352 (q * 3 + 2) = onN (doA Z F X.1.1 w q) 16) ∧ zfc [325, 326, 327, 352] μ3 ν) ⟨rfl, hC3, fun q _ _ => by omega, zfc.rf⟩ ?_
    rintro p ρ ν hp ⟨rfl, hCν, hq, hf⟩
    (try simp only [zit_e, Bool.and_eq_true, Bool.or_eq_true, Bool.not_eq_true', Bool.and_eq_false_iff, Bool.or_eq_false_iff, Bool.not_eq_false', zbe, zdt, zdf, zb2_p, zbp_0, zbp_1, zbp_inj, zbp_01, Bool.true_eq_false, Bool.false_eq_true, true_and, and_true, Decidable.not_not, Classical.not_not, implies_true, List.nil_append, List.cons_append, List.append_assoc, Option.some.injEq, Sum.inl.injEq, zSw_c, zSw_n]); (try simp only [zit_e, Bool.and_eq_true, Bool.or_eq_true, Bool.not_eq_true', Bool.and_eq_false_iff, Bool.or_eq_false_iff, Bool.not_eq_false', zbe, zdt, zdf, zb2_p, zbp_0, zbp_1, zbp_inj, zbp_01, Bool.true_eq_false, Bool.false_eq_true, true_and, and_true, Decidable.not_not, Classical.not_not, implies_true, List.nil_append, List.cons_append, List.append_assoc, Option.some.injEq, Sum.inl.injEq, zSw_c, zSw_n, zc_0, zc_1, zc_2, zc_351, f_Le_balanceOf, g_Le_balanceOf, f_J_bitCount, g_J_bitCount]); (try simp only [zi_cs, zi_c0, zii_cs, zii_c0, zl_cs, zl_c0, zll_cs, zll_c0, zr_cs, zr_c0, zrr_cs, zrr_c0, zxs_cs, zxs_c0, zxx_cs, zxx_c0, zfree_c0, zfree_c1, zfree_cs, zfree_cz, zlong_i, zlong_r, zlong_x, zset_0, zset_s, true_and, and_true, Option.some.injEq, Sum.inl.injEq, Sum.inr.injEq, zb2_p, zbp_0, zbp_1, zbp_inj, zbp_01, Nat.zero_add, Nat.reduceAdd, implies_true, List.nil_append, List.cons_append, List.append_assoc, Int.not_lt, Int.not_le, Decidable.not_not, Int.zero_add, Int.reduceLE, Int.reduceLT, Int.reduceEq, Int.reduceNe, Int.reduceAdd, Int.reduceSub, Int.reduceMul, Int.reduceNeg, Int.reduceToNat, Nat.reduceMul, Nat.reduceLT, Nat.reduceEqDiff, and_self, ite_true, ite_false, zx1, zx2, zRecv, List.length_cons, List.length_nil, ne_eq, not_true_eq_false, not_false_eq_true, true_or, or_true, or_false, false_or, and_false, false_and, zf01, zf10, reduceCtorEq, zSw_c, zSw_n, zm_r, zit_T, zit_F, false_implies, true_implies, zc_0, zc_1, zc_2, zc_351, f_Le_balanceOf, g_Le_balanceOf, f_J_bitCount, g_J_bitCount])
    rw [hCν.2.2.1.1, hnn]
    refine zif (fun c3 => ?_) (fun c3 => ?_)
    · have hpu := (hCν.p).1 p (by omega) (by omega)
      rw [hCν.n.2.2.1, hpu]
      refine ⟨⟨⟨by omega, by omega⟩, hCν.d.2.2.2.1⟩, ?_⟩
      refine zCw.use (q_D_openDoors (d := 8) (by decide) hCν (v := p) (by omega)) (by decide) (fun q ν2 e => ?_)
      obtain ⟨rfl, hcf⟩ := e
      refine ⟨_, rfl, ?_⟩
      have hb := hBd p (by omega)
      have h27 : 2 ^ Z.1.toNat ≤ 2 ^ 7 := Nat.pow_le_pow_right (by decide) (by omega)
      have hdo : 0 ≤ doA Z F X.1.1 w p ∧ doA Z F X.1.1 w p < 65536 := by
        unfold doA
        have : (2 : Nat) ^ 7 = 128 := by decide
        omega
      refine zCw.use (p_J_bitCount [vi (doA Z F X.1.1 w p)] ν2 hdo) (by decide) (fun q ν3 e => ?_)
      obtain ⟨rfl, e3⟩ := e
      rw [e3]
      refine ⟨_, rfl, ?_⟩
      refine zCw.use (q_Mo_keep (d := 1) (by decide) (p := p) (by omega)) (by decide) (fun q ν4 e => ?_)
      obtain ⟨rfl, rfl⟩ := e
      refine ⟨rfl, by ((try simp only [zI_e]); (first | done | omega | skip)), znx (by omega) ⟨rfl, (hCν.f hcf).k (fun c hc => by rw [zm_off _ (by omega), zm_off _ (by omega), zm_off _ (by omega)]) (by rw [zm_off _ (by decide), zm_off _ (by decide), zm_off _ (by decide)]; exact hcf.2), fun q q0 q1 => ?_, (((((hf.tr hcf.1).mo (b := [325, 326, 327, 352]) (by simp)).zm (by decide)).zm (by decide)).zm (by decide))⟩⟩
      by_cases eq : q = p
      · subst eq
        refine ⟨?_, ?_, ?_⟩
        · rw [zm_o (by omega), zm_o (by omega), zm_s]
        · rw [zm_o (by omega), zm_s]
        · rw [zm_s]
          rfl
      · rw [zm_o (by omega), zm_o (by omega), zm_o (by omega), zm_o (by omega), zm_o (by omega), zm_o (by omega), zm_o (by omega), zm_o (by omega), zm_o (by omega), hcf.1 352 (by decide)]
        exact hq q q0 (by omega)
    · have ep : p = nn := by omega
      subst ep
      have hCm : CTx (zm ν 351 2 (p : Int)) Z F X.1.1 w := hCν.k (fun c hc => zm_off _ (by omega)) (by rw [zm_off _ (by decide)]; exact hCν.2.2.2.2.2)
      refine pb_w (by omega) hCm hC.2.1 ((hP3.c (fun c p q => hf c (by simp only [List.mem_cons, List.not_mem_nil, or_false]; omega))).c (fun c p q => zm_off _ (by omega))) (fun ν2 hC5 f5 => ⟨rfl, ?_⟩)
      have hff : zfc [2, 3, 4, 5, 6, 7, 105, 106, 107, 108, 109, 110, 325, 326, 327, 351, 352] μ ν2 := ((((hf3.tr hf).mo (b := [2, 3, 4, 5, 6, 7, 105, 106, 107, 108, 109, 110, 325, 326, 327, 351, 352]) (by simp)).zm (by decide)).tr f5).mo (by simp)
      refine acD_w (by omega) ⟨_, rfl, OD.yes (by omega) ((hff.hm (by simp)).sm (by omega)) ⟨rfl, ν2, hC5, fun q q0 q1 => ?_, ?_, hff, rfl⟩⟩
      · rw [f5 352 (by decide), zm_off _ (by decide)]
        exact hq q q0 (by omega)
      · rw [f5 351 (by decide), zm_s]
  · intro μ1 hm
    have hM1 := hM.k (μ' := μ1) (hm 357 (by decide))
    have hr := hJ.rM h0 h1 hm
    have e152 : μ1 357 152 = Z.1 := hM1.n.2.1
    by_cases cv : mthC Z s m = 0
    · have c1 : ¬ (¬ (0 ≤ s ∧ s ≤ 1000000) ∨ ¬ (1 ≤ m ∧ m ≤ 30)) := fun q => by unfold mthC at cv; rw [zit_t q] at cv; omega
      have c2 : ¬ Z.1 = 0 := fun q => by unfold mthC at cv; rw [zit_f c1, zit_t q] at cv; omega
      refine zCw.use (q_M_month (d := 53) (by decide) hM1 (s := s) (m := m) (n := n) (by omega) (by omega) (by omega) (by omega)) (by decide) (fun q μ2 e => ?_)
      obtain ⟨rfl, e1, e2, e3, e4, e5⟩ := e
      rw [cv]
      exact OM.yes (by decide) (e5.hc (by simp)) ⟨rfl, e1, e2, e3, e4, e5⟩
    · refine zCw.use (zSp.ss [vr 355, vi s, vi m, vx 0, vx 0, vx 0, vx 0, vx 0, vx 0, vx 0, vx 0, vx 0] rfl (w_M_month (d := 100) (by decide)) rfl rfl ?_) (by decide) (fun q μ' e => e)
      (try simp only [zit_e, Bool.and_eq_true, Bool.or_eq_true, Bool.not_eq_true', Bool.and_eq_false_iff, Bool.or_eq_false_iff, Bool.not_eq_false', zbe, zdt, zdf, zb2_p, zbp_0, zbp_1, zbp_inj, zbp_01, Bool.true_eq_false, Bool.false_eq_true, true_and, and_true, Decidable.not_not, Classical.not_not, implies_true, List.nil_append, List.cons_append, List.append_assoc, Option.some.injEq, Sum.inl.injEq, zSw_c, zSw_n]); (try simp only [zit_e, Bool.and_eq_true, Bool.or_eq_true, Bool.not_eq_true', Bool.and_eq_false_iff, Bool.or_eq_false_iff, Bool.not_eq_false', zbe, zdt, zdf, zb2_p, zbp_0, zbp_1, zbp_inj, zbp_01, Bool.true_eq_false, Bool.false_eq_true, true_and, and_true, Decidable.not_not, Classical.not_not, implies_true, List.nil_append, List.cons_append, List.append_assoc, Option.some.injEq, Sum.inl.injEq, zSw_c, zSw_n, zc_355, f_M_lies, g_M_lies, f_M_people, g_M_people]); (try simp only [zi_cs, zi_c0, zii_cs, zii_c0, zl_cs, zl_c0, zll_cs, zll_c0, zr_cs, zr_c0, zrr_cs, zrr_c0, zxs_cs, zxs_c0, zxx_cs, zxx_c0, zfree_c0, zfree_c1, zfree_cs, zfree_cz, zlong_i, zlong_r, zlong_x, zset_0, zset_s, true_and, and_true, Option.some.injEq, Sum.inl.injEq, Sum.inr.injEq, zb2_p, zbp_0, zbp_1, zbp_inj, zbp_01, Nat.zero_add, Nat.reduceAdd, implies_true, List.nil_append, List.cons_append, List.append_assoc, Int.not_lt, Int.not_le, Decidable.not_not, Int.zero_add, Int.reduceLE, Int.reduceLT, Int.reduceEq, Int.reduceNe, Int.reduceAdd, Int.reduceSub, Int.reduceMul, Int.reduceNeg, Int.reduceToNat, Nat.reduceMul, Nat.reduceLT, Nat.reduceEqDiff, and_self, ite_true, ite_false, zx1, zx2, zRecv, List.length_cons, List.length_nil, ne_eq, not_true_eq_false, not_false_eq_true, true_or, or_true, or_false, false_or, and_false, false_and, zf01, zf10, reduceCtorEq, zSw_c, zSw_n, zm_r, zit_T, zit_F, false_implies, true_implies, zc_355, f_M_lies, g_M_lies, f_M_people, g_M_people])
      rw [e152]
      refine zif (fun c1 => rfM_w (by omega) (by decide) hr ⟨_, rfl, OM.no (zit_t (by omega)) (by decide) PJm.rf⟩) (fun c1 => ?_)
      refine zif (fun c2 => rfM_w (by omega) (by decide) hr ⟨_, rfl, OM.no ((zit_f (by omega)).trans (zit_t c2)) (by decide) PJm.rf⟩) (fun c2 => ?_)
      exact absurd ((zit_f (by omega)).trans (zit_f c2)) cv
  · rintro - v1 v2 μ1 μ2 hm ⟨rfl, X, x1, x2, x3, x4, eD⟩ hc ⟨rfl, y1, y2, y3, y4, y5⟩
    have hJ1 := hJ.m HC.rf hm
    refine ⟨rfl, ?_⟩
    have hT : TJ X (μ2 357) := hJ1.1.lg (A := A) (fun c hc => x4 c (by simp only [List.mem_cons, List.not_mem_nil, or_false]; omega)) y2 hC.2.1 x1.2.2.2.1.1 x1.2.2.2.1.2 y1.2.2.2.1.1 y1.2.2.2.1.2
    obtain ⟨z1, z2, z3, z4, z5, z6, z7⟩ := hJ1
    have kk : ∀ j : Int, (j = 6 ∨ j = 11 ∨ j = 12 ∨ j = 28 ∨ j = 47) → μ2 355 j = μ1 355 j := fun j hj => y3.2.2 j (by unfold kfM; omega) (by omega) (by omega)
    refine JJ.eqD eD ⟨hT.c (fun c p q i _ _ => by rw [zm_off _ (by omega)]) (fun i _ _ => rfl), z2.c (fun c p q => by rw [zm_off _ (by omega), x4 c (by simp only [List.mem_cons, List.not_mem_nil, or_false]; omega)]) (y5 369 (by decide)) (kk _ (by omega)), z3.c (fun c p q => by rw [zm_off _ (by omega), x4 c (by simp only [List.mem_cons, List.not_mem_nil, or_false]; omega)]) (y5 358 (by decide)) (y5 359 (by decide)), z4.c (by rw [zm_off _ (by decide), x4 321 (by decide)]) (by rw [zm_off _ (by decide), x4 321 (by decide)]) (by rw [zm_off _ (by decide), x4 322 (by decide)]) (kk _ (by omega)) (kk _ (by omega)) (y5 361 (by decide)) (y5 362 (by decide)), z5.ok (by omega) (by rw [zm_s, y3.1]) (by rw [zm_o (by omega), x4 0 (by decide)]) (by rw [zm_o (by omega), x4 0 (by decide)]) (by rw [zm_off _ (by decide), x4 354 (by decide)]) (kk _ (by omega)) (kk _ (by omega)) (y5 356 (by decide)), ⟨?_, ?_, fun p p0 p1 => ?_⟩, by rw [zm_off _ (by decide)]; exact x1.2.2.2.2.2.2⟩
    · rw [zm_off _ (by decide), x3]
      exact hz
    · rw [zm_off _ (by decide), x3]
      exact y3.2.1
    · rw [zm_off _ (by decide), x3] at p1
      rw [zm_off _ (by decide), (y4 p p0 p1).1, (y4 p p0 p1).2.1, (y4 p p0 p1).2.2, Int.mul_comm 3 p, (x2 p p0 p1).1, (x2 p p0 p1).2.1, (x2 p p0 p1).2.2]
      exact ⟨rfl, rfl, rfl⟩)
theorem LC_drawn {p x : Int} : LC y_D_drawn y_M_drawn [vi p, vi x] := LC.pu p_D_drawn p_M_drawn (by decide) (fun k μ h => by
  obtain ⟨q1, q2, q3⟩ := h.2.2.2.2.2.1
  refine ⟨⟨rfl, q1⟩, ⟨rfl, by rw [q2]; exact q1⟩, ?_⟩
  show (if (0 ≤ p ∧ p < μ 351 2) ∧ 0 ≤ x ∧ x ≤ 2 then μ 352 (p * 3 + x) else -1000000) = (if 0 ≤ p ∧ p < μ 355 59 then (if x = 0 then μ 384 p else if x = 1 then μ 385 p else if x = 2 then μ 386 p else -1000000) else -1000000)
  rw [q2]
  by_cases c : 0 ≤ p ∧ p < μ 351 2
  · obtain ⟨r1, r2, r3⟩ := q3 p c.1 c.2
    rw [if_pos c, r1, r2, r3, Int.mul_comm 3 p]
    by_cases c0 : x = 0
    · subst c0
      rw [if_pos ⟨c, by decide⟩, if_pos rfl, Int.add_zero]
    by_cases c1 : x = 1
    · subst c1
      rw [if_pos ⟨c, by decide⟩, if_neg c0, if_pos rfl]
    by_cases c2 : x = 2
    · subst c2
      rw [if_pos ⟨c, by decide⟩, if_neg c0, if_neg c1, if_pos rfl]
    rw [if_neg (by omega), if_neg c0, if_neg c1, if_neg c2]
  · rw [if_neg c, if_neg (fun q => c q.1)])

