/-! what a ring's clearing shuts, the reference; both -/
theorem q_M_cleared {d : Nat} (hd : 52 ≤ d) {μ : zMem} {Z : Zt} {F : Option (List Cls)} {A : Lg} {w : Int → Int} {x : Int} {n : Nat} (h : MTx μ Z F A w) (hn : Z.1 = (n : Int)) : zSp d 0 0 y_M_cleared zT0 [vr 355, vi x] μ zT0 (fun q μ' => q = some (vi (cdA Z F A w x (rgA Z A))) ∧ MTx μ' Z F A w ∧ (∀ i : Int, 73 ≤ i → μ' 357 i = μ 357 i) ∧ zfc [355, 357, 360, 367, 379, 380, 381] μ μ' ∧ ∀ j : Int, kfM j → μ' 355 j = μ 355 j) := by
  have hz := h.1.1
  have n5 := h.n
  refine zSp.ss [vr 355, vi x, vx 0, vx 0, vx 0, vx 0] rfl (w_M_cleared (Nat.le_trans (by decide) hd)) rfl rfl ?_
  (try simp only [zit_e, Bool.and_eq_true, Bool.or_eq_true, Bool.not_eq_true', Bool.and_eq_false_iff, Bool.or_eq_false_iff, Bool.not_eq_false', zbe, zdt, zdf, zb2_p, zbp_0, zbp_1, zbp_inj, zbp_01, Bool.true_eq_false, Bool.false_eq_true, true_and, and_true, Decidable.not_not, Classical.not_not, implies_true, List.nil_append, List.cons_append, List.append_assoc, Option.some.injEq, Sum.inl.injEq, zSw_c, zSw_n]); (try simp only [zit_e, Bool.and_eq_true, Bool.or_eq_true, Bool.not_eq_true', Bool.and_eq_false_iff, Bool.or_eq_false_iff, Bool.not_eq_false', zbe, zdt, zdf, zb2_p, zbp_0, zbp_1, zbp_inj, zbp_01, Bool.true_eq_false, Bool.false_eq_true, true_and, and_true, Decidable.not_not, Classical.not_not, implies_true, List.nil_append, List.cons_append, List.append_assoc, Option.some.injEq, Sum.inl.injEq, zSw_c, zSw_n, zc_355, f_M_lies, g_M_lies]); (try simp only [zi_cs, zi_c0, zii_cs, zii_c0, zl_cs, zl_c0, zll_cs, zll_c0, zr_cs, zr_c0, zrr_cs, zrr_c0, zxs_cs, zxs_c0, zxx_cs, zxx_c0, zfree_c0, zfree_c1, zfree_cs, zfree_cz, zlong_i, zlong_r, zlong_x, zset_0, zset_s, true_and, and_true, Option.some.injEq, Sum.inl.injEq, Sum.inr.injEq, zb2_p, zbp_0, zbp_1, zbp_inj, zbp_01, Nat.zero_add, Nat.reduceAdd, implies_true, List.nil_append, List.cons_append, List.append_assoc, Int.not_lt, Int.not_le, Decidable.not_not, Int.zero_add, Int.reduceLE, Int.reduceLT, Int.reduceEq, Int.reduceNe, Int.reduceAdd, Int.reduceSub, Int.reduceMul, Int.reduceNeg, Int.reduceToNat, Nat.reduceMul, Nat.reduceLT, Nat.reduceEqDiff, and_self, ite_true, ite_false, zx1, zx2, zRecv, List.length_cons, List.length_nil, ne_eq, not_true_eq_false, not_false_eq_true, true_or, or_true, or_false, false_or, and_false, false_and, zf01, zf10, reduceCtorEq, zSw_c, zSw_n, zm_r, zit_T, zit_F, false_implies, true_implies, zc_355, f_M_lies, g_M_lies])
  refine zCw.use (q_R_findsRing (d := 13) (by decide) h) (by omega) (fun q μ1 e => ?_)
  obtain ⟨rfl, hF, hL, hR⟩ := e
  have hM1 := h.k (μ' := μ1) (hF.1 357 (by decide))
  have k5 : ∀ j : Int, kfM j → μ1 355 j = μ 355 j := fun j hj => hF.2 j (by unfold kfM at hj; omega) (by unfold kfM at hj; omega)
  refine ⟨rfl, ?_⟩
  generalize hB : rgA Z A = B at *
  rcases B with _ | l
  · have hR : μ1 355 43 = 0 := hR
    refine zif (fun c => ?_) (fun c => absurd (Or.inl hR) c)
    exact ⟨rfl, hM1, fun i hi => by rw [hF.1 357 (by decide)], hF.1.mo (by simp), k5⟩
  · have hll := LR_l (by omega) hL
    have hin := rlA_in (l := l) (M := 1000000000) h.2.1 (by decide) l.length
    have hin2 := hin.2.2 (by omega)
    have hv : f_M_ringLeast [vr 355] μ1 = rlA A l 1000000000 l.length := by
      show rlF (fun i => owL (μ1 380 (i : Int)) (μ1 380 (((i + 1) % (μ1 355 43).toNat : Nat) : Int)) (dbM μ1)) 1000000000 (μ1 355 43).toNat = _
      rw [hR.1.1, Int.toNat_natCast, rlF_A (A := A) (l := l) (fun i hi => by rw [hR.2.2 i hi, hR.2.2 _ (Nat.mod_lt _ (by omega)), hM1.d.1]; rfl)]
    refine zif (fun c => ?_) (fun c => ?_)
    · have hx : ¬ (0 ≤ x ∧ x ≤ 1) := by
        have := hR.1.1
        omega
      refine ⟨(show (-1 : Int) = zit (0 ≤ x ∧ x ≤ 1) _ (-1) from (zit_f hx).symm), hM1, fun i hi => by rw [hF.1 357 (by decide)], hF.1.mo (by simp), k5⟩
    have hx : 0 ≤ x ∧ x ≤ 1 := by omega
    rw [hv]
    generalize hm0 : rlA A l 1000000000 l.length = m at *
    refine ⟨⟨rfl, by rw [hR.1.1]; omega, hM1.d.2.2.2.1⟩, ?_⟩
    have ec : cdA Z F A w x (some l) = zit (x = 0) m (coN (shP Z F A (clA l m A l.length) w) n n) := by
      show zit (0 ≤ x ∧ x ≤ 1) (zit (x = 0) (rlA A l 1000000000 l.length) (coN (shP Z F A (clA l (rlA A l 1000000000 l.length) A l.length) w) Z.1.toNat Z.1.toNat)) (-1) = _
      rw [zit_t hx, hm0, hn, Int.toNat_natCast]
    rw [ec]
    refine zif (fun c1 => ?_) (fun c1 => ?_)
    · rw [zit_t c1]
      exact ⟨rfl, hM1, fun i hi => by rw [hF.1 357 (by decide)], hF.1.mo (by simp), k5⟩
    rw [zit_f c1]
    clear ec hv
    -- what is written while doors are asked
    have m1 : ∀ {a b : zMem}, MF a b → (∀ j : Int, j ≠ 20 → j ≠ 21 → j ≠ 22 → j ≠ 23 → b 355 j = a 355 j) ∧ zfc [355, 367, 381] a b := fun h => ⟨h.1, h.2.mo (by simp)⟩
    have b45 : ∀ (h v : Nat), h < n → v < n → (0 ≤ 7 * (h : Int) + v ∧ 7 * (h : Int) + v < 49) := fun h v p q => by omega
    refine zLoop.up n (fun j ρ ν => ∃ y z : zV, ρ = [vr 355, vi x, vi m, vi j, y, z] ∧ (∀ h v : Nat, h < j → v < n → h ≠ v → ν 381 (7 * (h : Int) + v) = dnA Z F A w h v) ∧ (∀ j : Int, j ≠ 20 → j ≠ 21 → j ≠ 22 → j ≠ 23 → ν 355 j = μ1 355 j) ∧ zfc [355, 367, 381] μ1 ν) ⟨_, _, rfl, fun _ _ q => by omega, fun _ _ _ _ _ => rfl, zfc.rf⟩ ?_
    rintro j ρ ν hj ⟨y, z, rfl, hI, h5, hf⟩
    have hMν := hM1.k (μ' := ν) (hf 357 (by decide))
    (try simp only [zit_e, Bool.and_eq_true, Bool.or_eq_true, Bool.not_eq_true', Bool.and_eq_false_iff, Bool.or_eq_false_iff, Bool.not_eq_false', zbe, zdt, zdf, zb2_p, zbp_0, zbp_1, zbp_inj, zbp_01, Bool.true_eq_false, Bool.false_eq_true, true_and, and_true, Decidable.not_not, Classical.not_not, implies_true, List.nil_append, List.cons_append, List.append_assoc, Option.some.injEq, Sum.inl.injEq, zSw_c, zSw_n]); (try simp only [zit_e, Bool.and_eq_true, Bool.or_eq_true, Bool.not_eq_true', Bool.and_eq_false_iff, Bool.or_eq_false_iff, Bool.not_eq_false', zbe, zdt, zdf, zb2_p, zbp_0, zbp_1, zbp_inj, zbp_01, Bool.true_eq_false, Bool.false_eq_true, true_and, and_true, Decidable.not_not, Classical.not_not, implies_true, List.nil_append, List.cons_append, List.append_assoc, Option.some.injEq, Sum.inl.injEq, zSw_c, zSw_n, zc_355, f_M_people, g_M_people]); (try simp only [zi_cs, zi_c0, zii_cs, zii_c0, zl_cs, zl_c0, zll_cs, zll_c0, zr_cs, zr_c0, zrr_cs, zrr_c0, zxs_cs, zxs_c0, zxx_cs, zxx_c0, zfree_c0, zfree_c1, zfree_cs, zfree_cz, zlong_i, zlong_r, zlong_x, zset_0, zset_s, true_and, and_true, Option.some.injEq, Sum.inl.injEq, Sum.inr.injEq, zb2_p, zbp_0, zbp_1, zbp_inj, zbp_01, Nat.zero_add, Nat.reduceAdd, implies_true, List.nil_append, List.cons_append, List.append_assoc, Int.not_lt, Int.not_le, Decidable.not_not, Int.zero_add, Int.reduceLE, Int.reduceLT, Int.reduceEq, Int.reduceNe, Int.reduceAdd, Int.reduceSub, Int.reduceMul, Int.reduceNeg, Int.reduceToNat, Nat.reduceMul, Nat.reduceLT, Nat.reduceEqDiff, and_self, ite_true, ite_false, zx1, zx2, zRecv, List.length_cons, List.length_nil, ne_eq, not_true_eq_false, not_false_eq_true, true_or, or_true, or_false, false_or, and_false, false_and, zf01, zf10, reduceCtorEq, zSw_c, zSw_n, zm_r, zit_T, zit_F, false_implies, true_implies, zc_355, f_M_people, g_M_people])
    rw [hMν.2.2.1.1, hn]
    refine zif (fun c2 => ?_) (fun c2 => ?_)
    · refine zLoop.up n (fun i ρ ν2 => ∃ z : zV, ρ = [vr 355, vi x, vi m, vi j, vi i, z] ∧ (∀ h v : Nat, (h < j ∧ v < n ∨ h = j ∧ v < i) → h ≠ v → ν2 381 (7 * (h : Int) + v) = dnA Z F A w h v) ∧ (∀ j : Int, j ≠ 20 → j ≠ 21 → j ≠ 22 → j ≠ 23 → ν2 355 j = μ1 355 j) ∧ zfc [355, 367, 381] μ1 ν2) ⟨_, rfl, fun h v q => hI h v (by omega) (by omega), h5, hf⟩ ?_
      rintro i ρ ν2 hi ⟨z, rfl, hI2, h52, hf2⟩
      have hMν2 := hM1.k (μ' := ν2) (hf2 357 (by decide))
      (try simp only [zit_e, Bool.and_eq_true, Bool.or_eq_true, Bool.not_eq_true', Bool.and_eq_false_iff, Bool.or_eq_false_iff, Bool.not_eq_false', zbe, zdt, zdf, zb2_p, zbp_0, zbp_1, zbp_inj, zbp_01, Bool.true_eq_false, Bool.false_eq_true, true_and, and_true, Decidable.not_not, Classical.not_not, implies_true, List.nil_append, List.cons_append, List.append_assoc, Option.some.injEq, Sum.inl.injEq, zSw_c, zSw_n]); (try simp only [zit_e, Bool.and_eq_true, Bool.or_eq_true, Bool.not_eq_true', Bool.and_eq_false_iff, Bool.or_eq_false_iff, Bool.not_eq_false', zbe, zdt, zdf, zb2_p, zbp_0, zbp_1, zbp_inj, zbp_01, Bool.true_eq_false, Bool.false_eq_true, true_and, and_true, Decidable.not_not, Classical.not_not, implies_true, List.nil_append, List.cons_append, List.append_assoc, Option.some.injEq, Sum.inl.injEq, zSw_c, zSw_n, zc_355, f_M_people, g_M_people]); (try simp only [zi_cs, zi_c0, zii_cs, zii_c0, zl_cs, zl_c0, zll_cs, zll_c0, zr_cs, zr_c0, zrr_cs, zrr_c0, zxs_cs, zxs_c0, zxx_cs, zxx_c0, zfree_c0, zfree_c1, zfree_cs, zfree_cz, zlong_i, zlong_r, zlong_x, zset_0, zset_s, true_and, and_true, Option.some.injEq, Sum.inl.injEq, Sum.inr.injEq, zb2_p, zbp_0, zbp_1, zbp_inj, zbp_01, Nat.zero_add, Nat.reduceAdd, implies_true, List.nil_append, List.cons_append, List.append_assoc, Int.not_lt, Int.not_le, Decidable.not_not, Int.zero_add, Int.reduceLE, Int.reduceLT, Int.reduceEq, Int.reduceNe, Int.reduceAdd, Int.reduceSub, Int.reduceMul, Int.reduceNeg, Int.reduceToNat, Nat.reduceMul, Nat.reduceLT, Nat.reduceEqDiff, and_self, ite_true, ite_false, zx1, zx2, zRecv, List.length_cons, List.length_nil, ne_eq, not_true_eq_false, not_false_eq_true, true_or, or_true, or_false, false_or, and_false, false_and, zf01, zf10, reduceCtorEq, zSw_c, zSw_n, zm_r, zit_T, zit_F, false_implies, true_implies, zc_355, f_M_people, g_M_people])
      have en : ν2 357 152 = (n : Int) := by rw [hMν2.2.2.1.1, hn]
      refine zif (fun c3 => ?_) (fun c3 => ?_)
      all_goals first
        | replace c3 := of_decide_eq_false c3
        | replace c3 := Classical.byContradiction (fun q => c3 (decide_eq_false q))
      all_goals rw [en] at c3
      · refine ⟨⟨by ((try simp only [zI_e]); (first | done | omega | skip)), by ((try simp only [zI_e]); (first | done | omega | skip))⟩, by omega, by omega, ?_⟩
        refine zif (fun c4 => ?_) (fun c4 => ?_)
        · refine ⟨by ((try simp only [zI_e]); (first | done | omega | skip)), znx (by omega) ⟨_, rfl, fun h v q r => ?_, h52, hf2.zm (by decide)⟩⟩
          rw [zit_f (by omega)]
          exact hI2 h v (by omega) r
        · refine zCw.use (q_R_deepNow (d := 49) (by decide) hMν2 (o := j) (v := i) (by omega) (by omega)) (by omega) (fun q ν3 e => ?_)
          obtain ⟨rfl, hmf⟩ := e
          refine ⟨_, rfl, by ((try simp only [zI_e]); (first | done | omega | skip)), znx (by omega) ⟨_, rfl, fun h v q r => ?_, fun j p q r s => by rw [hmf.1 j p q r s, h52 j p q r s], ((hf2.tr hmf.2).mo (by simp)).zm (by decide)⟩⟩
          by_cases e3 : h = j ∧ v = i
          · rw [e3.1, e3.2, zit_t rfl]
          · rw [zit_f (by omega), hmf.2 381 (by decide)]
            exact hI2 h v (by omega) r
      · have : i = n := by omega
        subst this
        exact ⟨by ((try simp only [zI_e]); (first | done | omega | skip)), znx (by omega) ⟨_, _, rfl, fun h v q r s => hI2 h v (by omega) s, h52, hf2⟩⟩
    · have : j = n := by omega
      subst this
      refine zCw.use (q_M_laysAside (d := 1) (k := 9) (by decide) (by decide)) (by omega) (fun q ν2 e => ?_)
      obtain ⟨rfl, l1, l2⟩ := e
      have hMν2 := hMν.k (μ' := ν2) (l2 357 (by decide))
      have hR2 : RgM (some l) ν2 := ⟨by rw [l2 355 (by decide), h5 43 (by decide) (by decide) (by decide) (by decide)]; exact hR.1, by rw [l2 355 (by decide), h5 44 (by decide) (by decide) (by decide) (by decide)]; exact hR.2.1, fun i hi => by rw [l2 380 (by decide), hf 380 (by decide)]; exact hR.2.2 i hi⟩
      refine ⟨rfl, zCw.use (q_M_clears (d := 8) (by decide) hMν2 (by omega) hR2) (by omega) (fun q ν3 e => ?_)⟩
      obtain ⟨rfl, hMB, k73, k7⟩ := e
      refine ⟨rfl, ?_⟩
      generalize hBB : clA l m A l.length = B at *
      have hdep : ∀ h v : Nat, h < j → v < j → h ≠ v → ν3 381 (7 * (h : Int) + v) = dnA Z F A w h v := fun h v p q r => by
        rw [k7 381 (by decide), l2 381 (by decide)]
        exact hI h v p q r
      have ha : ∀ y : Int, 0 ≤ y → y < 73 → ν3 360 (657 + y) = μ1 357 y := fun y y0 y1 => by
        rw [k7 360 (by decide), l1, zit_t (by omega), hf 357 (by decide), show 657 + y - 73 * 9 = y by omega]
      have g5 : ∀ j : Int, j ≠ 20 → j ≠ 21 → j ≠ 22 → j ≠ 23 → ν3 355 j = μ1 355 j := fun j p q r s => by rw [k7 355 (by decide), l2 355 (by decide), h5 j p q r s]
      have g3 : zfc [355, 357, 360, 367, 381] μ1 ν3 := ((hf.tr l2).tr k7).mo (by simp)
      have g73 : ∀ i : Int, 73 ≤ i → ν3 357 i = μ1 357 i := fun i hi => by rw [k73 i hi, l2 357 (by decide), hf 357 (by decide)]
      clear hI h5 hf l1 l2 hMν2 hR2 k73 k7 hMν
      refine zLoop.up j (fun p ρ ν => ∃ y : zV, ρ = [vr 355, vi x, vi m, vi (coN (shP Z F A B w) j p), vi p, y] ∧ MF ν3 ν) ⟨_, rfl, MF.rf⟩ ?_
      rintro p ρ ν hp ⟨y, rfl, hmf⟩
      have hMB1 := hMB.f hmf
      (try simp only [zit_e, Bool.and_eq_true, Bool.or_eq_true, Bool.not_eq_true', Bool.and_eq_false_iff, Bool.or_eq_false_iff, Bool.not_eq_false', zbe, zdt, zdf, zb2_p, zbp_0, zbp_1, zbp_inj, zbp_01, Bool.true_eq_false, Bool.false_eq_true, true_and, and_true, Decidable.not_not, Classical.not_not, implies_true, List.nil_append, List.cons_append, List.append_assoc, Option.some.injEq, Sum.inl.injEq, zSw_c, zSw_n]); (try simp only [zit_e, Bool.and_eq_true, Bool.or_eq_true, Bool.not_eq_true', Bool.and_eq_false_iff, Bool.or_eq_false_iff, Bool.not_eq_false', zbe, zdt, zdf, zb2_p, zbp_0, zbp_1, zbp_inj, zbp_01, Bool.true_eq_false, Bool.false_eq_true, true_and, and_true, Decidable.not_not, Classical.not_not, implies_true, List.nil_append, List.cons_append, List.append_assoc, Option.some.injEq, Sum.inl.injEq, zSw_c, zSw_n, zc_355, f_M_people, g_M_people]); (try simp only [zi_cs, zi_c0, zii_cs, zii_c0, zl_cs, zl_c0, zll_cs, zll_c0, zr_cs, zr_c0, zrr_cs, zrr_c0, zxs_cs, zxs_c0, zxx_cs, zxx_c0, zfree_c0, zfree_c1, zfree_cs, zfree_cz, zlong_i, zlong_r, zlong_x, zset_0, zset_s, true_and, and_true, Option.some.injEq, Sum.inl.injEq, Sum.inr.injEq, zb2_p, zbp_0, zbp_1, zbp_inj, zbp_01, Nat.zero_add, Nat.reduceAdd, implies_true, List.nil_append, List.cons_append, List.append_assoc, Int.not_lt, Int.not_le, Decidable.not_not, Int.zero_add, Int.reduceLE, Int.reduceLT, Int.reduceEq, Int.reduceNe, Int.reduceAdd, Int.reduceSub, Int.reduceMul, Int.reduceNeg, Int.reduceToNat, Nat.reduceMul, Nat.reduceLT, Nat.reduceEqDiff, and_self, ite_true, ite_false, zx1, zx2, zRecv, List.length_cons, List.length_nil, ne_eq, not_true_eq_false, not_false_eq_true, true_or, or_true, or_false, false_or, and_false, false_and, zf01, zf10, reduceCtorEq, zSw_c, zSw_n, zm_r, zit_T, zit_F, false_implies, true_implies, zc_355, f_M_people, g_M_people])
      have en : ν 357 152 = (j : Int) := by rw [hMB1.2.2.1.1, hn]
      have b1 := coN_in (p := shP Z F A B w) (n := j) (by omega) p
      refine zif (fun c4 => ?_) (fun c4 => ?_)
      all_goals first
        | replace c4 := of_decide_eq_false c4
        | replace c4 := Classical.byContradiction (fun q => c4 (decide_eq_false q))
      all_goals rw [en] at c4
      · refine zLoop.up j (fun i ρ ν2 => ρ = [vr 355, vi x, vi m, vi (coN (shP Z F A B w) j p + ciN (shP Z F A B w) p i), vi p, vi i] ∧ MF ν3 ν2) ⟨by rw [ciN, Int.add_zero]; rfl, hmf⟩ ?_
        rintro i ρ ν2 hi ⟨rfl, hmf2⟩
        have hMB2 := hMB.f hmf2
        have b2 := ciN_in (p := shP Z F A B w) (h := p) i
        (try simp only [zit_e, Bool.and_eq_true, Bool.or_eq_true, Bool.not_eq_true', Bool.and_eq_false_iff, Bool.or_eq_false_iff, Bool.not_eq_false', zbe, zdt, zdf, zb2_p, zbp_0, zbp_1, zbp_inj, zbp_01, Bool.true_eq_false, Bool.false_eq_true, true_and, and_true, Decidable.not_not, Classical.not_not, implies_true, List.nil_append, List.cons_append, List.append_assoc, Option.some.injEq, Sum.inl.injEq, zSw_c, zSw_n]); (try simp only [zit_e, Bool.and_eq_true, Bool.or_eq_true, Bool.not_eq_true', Bool.and_eq_false_iff, Bool.or_eq_false_iff, Bool.not_eq_false', zbe, zdt, zdf, zb2_p, zbp_0, zbp_1, zbp_inj, zbp_01, Bool.true_eq_false, Bool.false_eq_true, true_and, and_true, Decidable.not_not, Classical.not_not, implies_true, List.nil_append, List.cons_append, List.append_assoc, Option.some.injEq, Sum.inl.injEq, zSw_c, zSw_n, zc_355, f_M_people, g_M_people]); (try simp only [zi_cs, zi_c0, zii_cs, zii_c0, zl_cs, zl_c0, zll_cs, zll_c0, zr_cs, zr_c0, zrr_cs, zrr_c0, zxs_cs, zxs_c0, zxx_cs, zxx_c0, zfree_c0, zfree_c1, zfree_cs, zfree_cz, zlong_i, zlong_r, zlong_x, zset_0, zset_s, true_and, and_true, Option.some.injEq, Sum.inl.injEq, Sum.inr.injEq, zb2_p, zbp_0, zbp_1, zbp_inj, zbp_01, Nat.zero_add, Nat.reduceAdd, implies_true, List.nil_append, List.cons_append, List.append_assoc, Int.not_lt, Int.not_le, Decidable.not_not, Int.zero_add, Int.reduceLE, Int.reduceLT, Int.reduceEq, Int.reduceNe, Int.reduceAdd, Int.reduceSub, Int.reduceMul, Int.reduceNeg, Int.reduceToNat, Nat.reduceMul, Nat.reduceLT, Nat.reduceEqDiff, and_self, ite_true, ite_false, zx1, zx2, zRecv, List.length_cons, List.length_nil, ne_eq, not_true_eq_false, not_false_eq_true, true_or, or_true, or_false, false_or, and_false, false_and, zf01, zf10, reduceCtorEq, zSw_c, zSw_n, zm_r, zit_T, zit_F, false_implies, true_implies, zc_355, f_M_people, g_M_people])
        have en2 : ν2 357 152 = (j : Int) := by rw [hMB2.2.2.1.1, hn]
        have nx : ∀ {q : Int} {ν4 : zMem}, q = coN (shP Z F A B w) j p + ciN (shP Z F A B w) p (i + 1) → MF ν3 ν4 → i < j → zI ((i : Int) + 1) ∧ ∃ m', m' < j - i ∧ ∃ j', m' = j - j' ∧ j' ≤ j ∧ [vr 355, vi x, vi m, vi q, vi p, vi ((i : Int) + 1)] = [vr 355, vi x, vi m, vi (coN (shP Z F A B w) j p + ciN (shP Z F A B w) p j'), vi p, vi j'] ∧ MF ν3 ν4 := by
          intro q ν4 e1 e2 e3
          exact ⟨by ((try simp only [zI_e]); (first | done | omega | skip)), j - (i + 1), by omega, i + 1, rfl, by omega, by rw [e1]; rfl, e2⟩
        refine zif (fun c5 => ?_) (fun c5 => ?_)
        all_goals first
          | replace c5 := of_decide_eq_false c5
          | replace c5 := Classical.byContradiction (fun q => c5 (decide_eq_false q))
        all_goals rw [en2] at c5
        · refine zif (fun c6 => ?_) (fun c6 => ?_)
          · refine zCw.use (q_R_deepNow (d := 49) (by decide) hMB2 (o := p) (v := i) (by omega) (by omega)) (by omega) (fun q ν4 e => ?_)
            obtain ⟨rfl, hmf3⟩ := e
            refine ⟨_, rfl, ⟨⟨by ((try simp only [zI_e]); (first | done | omega | skip)), by ((try simp only [zI_e]); (first | done | omega | skip))⟩, by omega, by omega⟩, ?_⟩
            rw [hmf3.2 381 (by decide), hmf2.2 381 (by decide), hdep p i (by omega) (by omega) (by omega)]
            refine zif (fun c7 => ?_) (fun c7 => ?_)
            · exact ⟨by ((try simp only [zI_e]); (first | done | omega | skip)), nx (by rw [ciN, zbt (show shP Z F A B w p i from ⟨by omega, c7⟩)]; omega) (hmf2.tr hmf3) (by omega)⟩
            · exact ⟨by ((try simp only [zI_e]); (first | done | omega | skip)), nx (by rw [ciN, zbf (fun q : shP Z F A B w p i => c7 q.2)]; omega) (hmf2.tr hmf3) (by omega)⟩
          · exact ⟨by ((try simp only [zI_e]); (first | done | omega | skip)), nx (by rw [ciN, zbf (fun q : shP Z F A B w p i => q.1 (by omega))]; omega) hmf2 (by omega)⟩
        · have : i = j := by omega
          subst this
          exact ⟨by ((try simp only [zI_e]); (first | done | omega | skip)), znx (by omega) ⟨_, rfl, hmf2⟩⟩
      · have : p = j := by omega
        subst this
        refine zCw.use (q_M_takesBack (d := 1) (k := 9) (by decide) (by decide)) (by omega) (fun q ν2 e => ?_)
        obtain ⟨rfl, t1, t2⟩ := e
        have x73 : ∀ i : Int, 73 ≤ i → ν2 357 i = ν 357 i := fun i hi => by rw [t1, zit_f (by omega)]
        refine ⟨rfl, rfl, hMB1.bk h.2.1 (κ := μ1 357) (fun y y0 y1 => ?_) x73 hM1.2.2.2.1.1 hM1.n.2.2.2.2.1, fun i hi => ?_, ?_, fun i hi => ?_⟩
        · rw [t1, zit_t ⟨y0, y1⟩, hmf.2 360 (by decide)]
          exact ha y y0 y1
        · rw [x73 i hi, hmf.2 357 (by decide), g73 i hi, hF.1 357 (by decide)]
        · exact (((hF.1.tr g3).tr hmf.2).tr t2).mo (by simp)
        · unfold kfM at hi
          rw [t2 355 (by decide), hmf.1 i (by omega) (by omega) (by omega) (by omega), g5 i (by omega) (by omega) (by omega) (by omega), k5 i (by unfold kfM; exact hi)]
theorem q_D_cleared {d : Nat} (hd : 14 ≤ d) {μ : zMem} {Z : Zt} {F : Option (List Cls)} {A : Lg} {w : Int → Int} {x : Int} {n : Nat} (h : CTx μ Z F A w) (hn : Z.1 = (n : Int)) : zSp d 0 0 y_D_cleared zT0 [vr 0, vi x] μ zT0 (fun q μ' => q = some (vi (cdA Z F A w x (rgA Z A))) ∧ CTx μ' Z F A w ∧ zfc [2, 3, 4, 5, 6, 7, 105, 106, 107, 108, 109, 110, 325, 326, 327, 346, 347, 350, 353] μ μ') := by
  have hz := h.1.1
  refine zSp.ss [vr 0, vi x, vx 0] rfl (w_D_cleared (Nat.le_trans (by decide) hd)) rfl rfl ?_
  (try simp only [zit_e, Bool.and_eq_true, Bool.or_eq_true, Bool.not_eq_true', Bool.and_eq_false_iff, Bool.or_eq_false_iff, Bool.not_eq_false', zbe, zdt, zdf, zb2_p, zbp_0, zbp_1, zbp_inj, zbp_01, Bool.true_eq_false, Bool.false_eq_true, true_and, and_true, Decidable.not_not, Classical.not_not, implies_true, List.nil_append, List.cons_append, List.append_assoc, Option.some.injEq, Sum.inl.injEq, zSw_c, zSw_n]); (try simp only [zit_e, Bool.and_eq_true, Bool.or_eq_true, Bool.not_eq_true', Bool.and_eq_false_iff, Bool.or_eq_false_iff, Bool.not_eq_false', zbe, zdt, zdf, zb2_p, zbp_0, zbp_1, zbp_inj, zbp_01, Bool.true_eq_false, Bool.false_eq_true, true_and, and_true, Decidable.not_not, Classical.not_not, implies_true, List.nil_append, List.cons_append, List.append_assoc, Option.some.injEq, Sum.inl.injEq, zSw_c, zSw_n, zc_0, zc_1, zc_346, f_D_between, g_D_between]); (try simp only [zi_cs, zi_c0, zii_cs, zii_c0, zl_cs, zl_c0, zll_cs, zll_c0, zr_cs, zr_c0, zrr_cs, zrr_c0, zxs_cs, zxs_c0, zxx_cs, zxx_c0, zfree_c0, zfree_c1, zfree_cs, zfree_cz, zlong_i, zlong_r, zlong_x, zset_0, zset_s, true_and, and_true, Option.some.injEq, Sum.inl.injEq, Sum.inr.injEq, zb2_p, zbp_0, zbp_1, zbp_inj, zbp_01, Nat.zero_add, Nat.reduceAdd, implies_true, List.nil_append, List.cons_append, List.append_assoc, Int.not_lt, Int.not_le, Decidable.not_not, Int.zero_add, Int.reduceLE, Int.reduceLT, Int.reduceEq, Int.reduceNe, Int.reduceAdd, Int.reduceSub, Int.reduceMul, Int.reduceNeg, Int.reduceToNat, Nat.reduceMul, Nat.reduceLT, Nat.reduceEqDiff, and_self, ite_true, ite_false, zx1, zx2, zRecv, List.length_cons, List.length_nil, ne_eq, not_true_eq_false, not_false_eq_true, true_or, or_true, or_false, false_or, and_false, false_and, zf01, zf10, reduceCtorEq, zSw_c, zSw_n, zm_r, zit_T, zit_F, false_implies, true_implies, zc_0, zc_1, zc_346, f_D_between, g_D_between])
  refine zCw.use (q_C_seek (d := 12) (by decide) h) (by omega) (fun q μ1 e => ?_)
  obtain ⟨rfl, hF, hL, hR⟩ := e
  have hC1 : CTx μ1 Z F A w := h.k (fun c hc => hF c (by simp only [List.mem_cons, List.not_mem_nil, or_false]; omega)) (by rw [hF 326 (by decide)]; exact h.2.2.2.2.2)
  refine ⟨rfl, ?_⟩
  generalize hB : rgA Z A = B at *
  rcases B with _ | l
  · have hR : μ1 346 4 = 0 := hR
    refine zif (fun c => ?_) (fun c => absurd (Or.inl hR) c)
    exact ⟨rfl, hC1, hF.mo (by simp)⟩
  · have hll := LR_l (by omega) hL
    have hin := rlA_in (l := l) (M := 1000000000) h.2.1 (by decide) l.length
    have hin2 := hin.2.2 (by omega)
    have hv : f_Cl_least [vr 346, vr 2] μ1 = rlA A l 1000000000 l.length := by
      show rlF (fun i => owL (μ1 350 (i : Int)) (μ1 350 (((i + 1) % (μ1 346 4).toNat : Nat) : Int)) (dbD μ1)) 159984 (μ1 346 4).toNat = _
      rw [hR.1, Int.toNat_natCast, rlF_A (A := A) (l := l) (fun i hi => by rw [hR.2 i hi, hR.2 _ (Nat.mod_lt _ (by omega)), hC1.d.1]; rfl)]
      exact hin2.2 _ (by decide)
    refine zif (fun c => ?_) (fun c => ?_)
    · have hx : ¬ (0 ≤ x ∧ x ≤ 1) := by
        have := hR.1
        omega
      exact ⟨(show (-1 : Int) = zit (0 ≤ x ∧ x ≤ 1) _ (-1) from (zit_f hx).symm), hC1, hF.mo (by simp)⟩
    have hx : 0 ≤ x ∧ x ≤ 1 := by omega
    rw [hv]
    generalize hm0 : rlA A l 1000000000 l.length = m at *
    have ec : cdA Z F A w x (some l) = zit (x = 0) m (coN (shP Z F A (clA l m A l.length) w) n n) := by
      show zit (0 ≤ x ∧ x ≤ 1) (zit (x = 0) (rlA A l 1000000000 l.length) (coN (shP Z F A (clA l (rlA A l 1000000000 l.length) A l.length) w) Z.1.toNat Z.1.toNat)) (-1) = _
      rw [zit_t hx, hm0, hn, Int.toNat_natCast]
    refine ⟨⟨rfl, rfl, by rw [hR.1]; omega, hC1.d.2.2.2.1⟩, ?_⟩
    rw [ec]
    refine zif (fun c1 => ?_) (fun c1 => ?_)
    · rw [zit_t c1]
      exact ⟨rfl, hC1, hF.mo (by simp)⟩
    rw [zit_f c1]
    refine zCw.use (q_D_shutByClearing (d := 10) (by decide) hC1 hn (by omega) (by omega) hR) (by omega) (fun q μ2 e => ?_)
    obtain ⟨rfl, hC2, hf⟩ := e
    exact ⟨_, rfl, rfl, hC2, (hF.tr hf).mo (by simp)⟩
theorem LC_cleared {x : Int} : LC y_D_cleared y_M_cleared [vi x] := LC.mk (fun k μ h0 h1 hJ => by
  obtain ⟨Z, F, A, w, hC, hM⟩ := hJ.ctx
  have hz := hC.1.1
  obtain ⟨n, hn⟩ : ∃ n : Nat, Z.1 = (n : Int) := ⟨Z.1.toNat, by omega⟩
  refine ⟨0, fun v μ1 => v = cdA Z F A w x (rgA Z A) ∧ CTx μ1 Z F A w ∧ zfc [2, 3, 4, 5, 6, 7, 105, 106, 107, 108, 109, 110, 325, 326, 327, 346, 347, 350, 353] μ μ1, fun μ1 v μ2 => v = cdA Z F A w x (rgA Z A) ∧ MTx μ2 Z F A w ∧ (∀ i : Int, 73 ≤ i → μ2 357 i = μ1 357 i) ∧ zfc [355, 357, 360, 367, 379, 380, 381] μ1 μ2 ∧ ∀ j : Int, kfM j → μ2 355 j = μ1 355 j, by decide, ?_, ?_, ?_⟩
  · refine zCw.use (q_D_cleared (d := 14) (by decide) hC hn (x := x)) (by decide) (fun q μ1 e => ?_)
    obtain ⟨rfl, e1, e2⟩ := e
    exact OD.yes (by decide) (e2.hm (by simp)) ⟨rfl, e1, e2⟩
  · intro μ1 hm
    refine zCw.use (q_M_cleared (d := 52) (by decide) (hM.k (μ' := μ1) (hm 357 (by decide))) hn (x := x)) (by decide) (fun q μ2 e => ?_)
    obtain ⟨rfl, e1, e2, e3, e4⟩ := e
    exact OM.yes (by decide) (e3.hc (by simp)) ⟨rfl, e1, e2, e3, e4⟩
  · rintro - v1 v2 μ1 μ2 hm ⟨rfl, x1, x2⟩ hc ⟨rfl, y1, y2, y3, y4⟩
    have hJ1 := hJ.m HC.rf hm
    refine ⟨rfl, JJ.up (k := k) (hJ1.tw (hJ1.1.lg (A := A) (fun c hc => x2 c (by simp only [List.mem_cons, List.not_mem_nil, or_false]; omega)) y2 hC.2.1 x1.2.2.2.1.1 x1.2.2.2.1.2 y1.2.2.2.1.1 y1.2.2.2.1.2) ⟨fun c p q r s t u => x2 c ?_, fun j _ _ => by rw [x2 0 (by decide)], ⟨by rw [x2 321 (by decide)], by rw [x2 321 (by decide)]⟩, by rw [x2 351 (by decide)], fun _ => x1.2.2.2.2.2.2⟩ (y3.kmt (by simp [scM]) y4)) (by omega)⟩
    unfold scC at r
    simp only [List.mem_cons, List.not_mem_nil, or_false]
    omega)

