/-! the reference's plain tests -/
theorem q_M_readPlain {d ds dt : Nat} (hd : 6 ≤ d) (hds : ds + 1 ≤ d) (hdt : dt + 1 ≤ d) {Q : zTk} {o : Bool} {S : Pr} {T : Option Pr} {b : Int} (hb : 0 ≤ b ∧ b ≤ 8) (hQ : okK Q) (hGS : PG Q.1 Q.2.2.2 S) (hS : MCT ds y_M_readSum [vi b] Q o S) (hn : T = none → b = 8) (hT : ∀ q, T = some q → b < 8 ∧ MCT dt y_M_readTest [vi (b + 1)] Q o q) : MCT d y_M_readPlain [vi b] Q o (pPlain Q.1 S T) := by
  refine ⟨fun μ t l w h hl => ?_, fun μ h => ?_⟩
  · refine zSp.ss [vr 355, vi b, vx 0, vx 0] rfl (w_M_readPlain (Nat.le_trans (by decide) hd)) rfl rfl ?_
    (try simp only [zit_e, Bool.and_eq_true, Bool.or_eq_true, Bool.not_eq_true', Bool.and_eq_false_iff, Bool.or_eq_false_iff, Bool.not_eq_false', zbe, zdt, zdf, zb2_p, zbp_0, zbp_1, zbp_inj, zbp_01, Bool.true_eq_false, Bool.false_eq_true, true_and, and_true, Decidable.not_not, Classical.not_not, implies_true, List.nil_append, List.cons_append, List.append_assoc, Option.some.injEq, Sum.inl.injEq, zSw_c, zSw_n]); (try simp only [zit_e, Bool.and_eq_true, Bool.or_eq_true, Bool.not_eq_true', Bool.and_eq_false_iff, Bool.or_eq_false_iff, Bool.not_eq_false', zbe, zdt, zdf, zb2_p, zbp_0, zbp_1, zbp_inj, zbp_01, Bool.true_eq_false, Bool.false_eq_true, true_and, and_true, Decidable.not_not, Classical.not_not, implies_true, List.nil_append, List.cons_append, List.append_assoc, Option.some.injEq, Sum.inl.injEq, zSw_c, zSw_n, zc_355, f_M_fine, g_M_fine, f_M_sign, g_M_sign]); (try simp only [zi_cs, zi_c0, zii_cs, zii_c0, zl_cs, zl_c0, zll_cs, zll_c0, zr_cs, zr_c0, zrr_cs, zrr_c0, zxs_cs, zxs_c0, zxx_cs, zxx_c0, zfree_c0, zfree_c1, zfree_cs, zfree_cz, zlong_i, zlong_r, zlong_x, zset_0, zset_s, true_and, and_true, Option.some.injEq, Sum.inl.injEq, Sum.inr.injEq, zb2_p, zbp_0, zbp_1, zbp_inj, zbp_01, Nat.zero_add, Nat.reduceAdd, implies_true, List.nil_append, List.cons_append, List.append_assoc, Int.not_lt, Int.not_le, Decidable.not_not, Int.zero_add, Int.reduceLE, Int.reduceLT, Int.reduceEq, Int.reduceNe, Int.reduceAdd, Int.reduceSub, Int.reduceMul, Int.reduceNeg, Int.reduceToNat, Nat.reduceMul, Nat.reduceLT, Nat.reduceEqDiff, and_self, ite_true, ite_false, zx1, zx2, zRecv, List.length_cons, List.length_nil, ne_eq, not_true_eq_false, not_false_eq_true, true_or, or_true, or_false, false_or, and_false, false_and, zf01, zf10, reduceCtorEq, zSw_c, zSw_n, zm_r, zit_T, zit_F, false_implies, true_implies, zc_355, f_M_fine, g_M_fine, f_M_sign, g_M_sign])
    generalize hR : pPlain Q.1 S T t l w = R
    unfold pPlain at hR
    have hQ1 := hQ.1
    have ht := h.2.2.2.2.2
    refine zLoop.mk (fun k ρ μ2 => ∃ (j : Nat) (mo : Int), ρ = [vr 355, vi b, vi mo, vx 0] ∧ MSt Q o (t + j) l μ2 ∧ FM μ μ2 ∧ nNot Q.1 400 t = j + nNot Q.1 (400 - j) (t + j) ∧ (mo = 1 ∨ mo = 0 ∧ ¬ Q.1 (t + j) = 8) ∧ (k : Int) = 2 * (Q.2.2.2 - (t + j)) + mo) (2 * (Q.2.2.2 - t) + 1) ⟨0, 1, rfl, h, FM.rf, by simp, Or.inl rfl, by omega⟩ ?_
    rintro k ρ μ2 ⟨j, mo, rfl, hM, hF, hN, hmo, hk⟩
    have htj := hM.2.2.2.2.2
    (try simp only [zit_e, Bool.and_eq_true, Bool.or_eq_true, Bool.not_eq_true', Bool.and_eq_false_iff, Bool.or_eq_false_iff, Bool.not_eq_false', zbe, zdt, zdf, zb2_p, zbp_0, zbp_1, zbp_inj, zbp_01, Bool.true_eq_false, Bool.false_eq_true, true_and, and_true, Decidable.not_not, Classical.not_not, implies_true, List.nil_append, List.cons_append, List.append_assoc, Option.some.injEq, Sum.inl.injEq, zSw_c, zSw_n]); (try simp only [zit_e, Bool.and_eq_true, Bool.or_eq_true, Bool.not_eq_true', Bool.and_eq_false_iff, Bool.or_eq_false_iff, Bool.not_eq_false', zbe, zdt, zdf, zb2_p, zbp_0, zbp_1, zbp_inj, zbp_01, Bool.true_eq_false, Bool.false_eq_true, true_and, and_true, Decidable.not_not, Classical.not_not, implies_true, List.nil_append, List.cons_append, List.append_assoc, Option.some.injEq, Sum.inl.injEq, zSw_c, zSw_n, zc_355, f_M_fine, g_M_fine, f_M_sign, g_M_sign]); (try simp only [zi_cs, zi_c0, zii_cs, zii_c0, zl_cs, zl_c0, zll_cs, zll_c0, zr_cs, zr_c0, zrr_cs, zrr_c0, zxs_cs, zxs_c0, zxx_cs, zxx_c0, zfree_c0, zfree_c1, zfree_cs, zfree_cz, zlong_i, zlong_r, zlong_x, zset_0, zset_s, true_and, and_true, Option.some.injEq, Sum.inl.injEq, Sum.inr.injEq, zb2_p, zbp_0, zbp_1, zbp_inj, zbp_01, Nat.zero_add, Nat.reduceAdd, implies_true, List.nil_append, List.cons_append, List.append_assoc, Int.not_lt, Int.not_le, Decidable.not_not, Int.zero_add, Int.reduceLE, Int.reduceLT, Int.reduceEq, Int.reduceNe, Int.reduceAdd, Int.reduceSub, Int.reduceMul, Int.reduceNeg, Int.reduceToNat, Nat.reduceMul, Nat.reduceLT, Nat.reduceEqDiff, and_self, ite_true, ite_false, zx1, zx2, zRecv, List.length_cons, List.length_nil, ne_eq, not_true_eq_false, not_false_eq_true, true_or, or_true, or_false, false_or, and_false, false_and, zf01, zf10, reduceCtorEq, zSw_c, zSw_n, zm_r, zit_T, zit_F, false_implies, true_implies, zc_355, f_M_fine, g_M_fine, f_M_sign, g_M_sign])
    refine zif (fun c => ?_) (fun c => ?_)
    · have hm1 : mo = 1 := by omega
      refine t0_w (by omega) hQ hM (by decide) (fun c8 μ3 a1 a2 => ⟨_, rfl, ?_⟩) (fun c8 => ⟨_, rfl, ?_⟩)
      · have htn := zNlt (c := Q.1) hQ.2.1 (show Q.1 (t + j) ≠ 0 by rw [c8]; decide)
        refine ⟨k - 2, by omega, j + 1, 1, rfl, a1, hF.tr a2, ?_, Or.inl rfl, by omega⟩
        rw [hN, show 400 - j = (400 - (j + 1)) + 1 by omega, nNot, if_pos c8, show t + j + 1 = t + (j + 1) by omega]
        omega
      · exact ⟨k - 1, by omega, j, 0, rfl, hM, hF, hN, Or.inr ⟨rfl, c8⟩, by omega⟩
    have c8 : ¬ Q.1 (t + j) = 8 := by
      rcases hmo with q | q
      · omega
      · exact q.2
    have hj0 : nNot Q.1 (400 - j) (t + j) = 0 := by
      cases 400 - j with
      | zero => rfl
      | succ f => rw [nNot, if_neg c8]
    rw [hj0, Nat.add_zero] at hN
    rw [hN] at hR
    have fin0 : ∀ {t1 : Nat} {μ5 : zMem}, pPos Q.1 S T (t + j) l w = (t1, none) → μ5 355 19 = Q.2.2.1 t1 → FM μ μ5 → MP Q o R μ none μ5 := by
      intro t1 μ5 f1 f2 f3
      refine MP_n (t := t1) ?_ f2 f3
      rw [← hR, f1]
      unfold pNeg
      split <;> rfl
    have fin1 : ∀ {t1 l1 : Nat} {m1 : Mn} {c1 : List Int} {μ5 : zMem}, pPos Q.1 S T (t + j) l w = (t1, some (l1, m1, c1)) → MSt Q o t1 l1 μ5 → FM μ μ5 → MP Q o R μ none μ5 := by
      intro t1 l1 m1 c1 μ5 f1 f2 f3
      rw [f1] at hR
      unfold pNeg at hR
      split at hR
      · exact MP_s hR.symm f2 f3
      · exact MP_s hR.symm f2 f3
    have ha := MSt_at hQ hM
    rw [ha.2.1, if_neg (fun q => q hM.2.2.2.1)]
    refine ⟨by omega, ?_⟩
    refine zif (fun c9 => ?_) (fun c9 => ?_)
    · cases T with
      | none =>
        have hpp : pPos Q.1 S none (t + j) l w = (t + j, none) := by
          unfold pPos
          rw [if_pos c9]
        rw [if_pos (hn rfl)]
        refine fa_w (by omega) hQ hM (fun μ1 a1 a2 => ⟨rfl, ?_⟩)
        rw [if_pos (bad_n hQ a1)]
        exact fin0 hpp a1 (hF.tr a2)
      | some q =>
        obtain ⟨hb8, hc⟩ := hT q rfl
        have hpp : pPos Q.1 S (some q) (t + j) l w = (match q (t + j + 1) l w with
          | (t1, none) => (t1, none)
          | (t1, some r) => if Q.1 t1 = 141 then (t1 + 1, some r) else (t1, none)) := by
          unfold pPos
          rw [if_pos c9]
          rfl
        rw [if_neg (by omega), if_neg (fun q => q hM.2.2.2.1)]
        obtain ⟨g1, g2⟩ := MSt_go hQ hM (by rw [c9]; decide)
        refine ⟨by ((try simp only [zI_e]); (first | done | omega | skip)), zI_s (by omega) (by omega), zCw.use (hc.1 _ (t + j + 1) l w g1 hl) hdt (fun r μ3 e => ?_)⟩
        obtain ⟨rfl, e1, e2⟩ := e
        refine ⟨rfl, ?_⟩
        rcases hs1 : q (t + j + 1) l w with ⟨t1, _ | ⟨l1, m1, c1⟩⟩
        · obtain ⟨f1, f2⟩ := e1 _ hs1
          rw [hs1] at hpp
          exact mu_n (by omega) (bad_n hQ f1) ⟨rfl, fin0 hpp f1 ((hF.tr g2).tr f2)⟩
        · obtain ⟨f1, f2⟩ := e2 _ _ _ _ hs1
          rw [hs1] at hpp
          dsimp only at hpp
          refine mu_w (by omega) hQ f1 (by decide) (fun c2 μ4 a1 a2 => ⟨rfl, ?_⟩) (fun c2 μ4 a1 a2 => ⟨rfl, ?_⟩)
          · rw [if_pos c2] at hpp
            exact fin1 hpp a1 (((hF.tr g2).tr f2).tr a2)
          · rw [if_neg c2] at hpp
            exact fin0 hpp a1 (((hF.tr g2).tr f2).tr a2)
    · have hpp : pPos Q.1 S T (t + j) l w = (match S (t + j) l w with
        | (t1, none) => (t1, none)
        | (t1, some (l1, m1, c1)) =>
          if oCmp (Q.1 t1) = 0 then (t1, none)
          else match S (t1 + 1) l1 (w + c1.length) with
            | (t2, none) => (t2, none)
            | (t2, some (l2, m2, c2)) => (t2, some (l2, mOp (oCmp (Q.1 t1)) m1 m2, c1 ++ c2 ++ [oCmp (Q.1 t1) * 4096]))) := by
        unfold pPos
        rw [if_neg c9]
        rfl
      refine zCw.use (hS.1 μ2 (t + j) l w hM hl) hds (fun r μ3 e => ?_)
      obtain ⟨rfl, e1, e2⟩ := e
      refine ⟨rfl, ?_⟩
      have sumn : ∀ {t1 : Nat} {μ4 : zMem}, pPos Q.1 S T (t + j) l w = (t1, none) → μ4 355 19 = Q.2.2.1 t1 → FM μ μ4 → zCw d y_M_readSum [vr 355, vi b] μ4 (fun q μ2 => q = none ∧ MP Q o R μ none μ2) := by
        intro t1 μ4 f1 f2 f3
        refine zCw.use (hS.2 μ4 (bad_n hQ f2)) hds (fun r μ5 e => ?_)
        obtain ⟨rfl, rfl⟩ := e
        exact ⟨rfl, fin0 f1 f2 f3⟩
      have hg1 := hGS (t + j) l w hl htj
      rcases h1 : S (t + j) l w with ⟨t1, _ | ⟨l1, m1, c1⟩⟩
      · obtain ⟨f1, f2⟩ := e1 _ h1
        rw [h1] at hpp
        have hnf := bad_n hQ f1
        refine t0_n (by omega) hnf ⟨_, rfl, ?_⟩
        rw [if_pos rfl]
        refine t0_n (by omega) hnf ⟨_, rfl, ?_⟩
        rw [if_pos rfl]
        exact mu_n (by omega) hnf ⟨rfl, sumn hpp f1 (hF.tr f2)⟩
      obtain ⟨f1, f2⟩ := e2 _ _ _ _ h1
      have hg2 := hg1.2 _ _ _ _ h1
      rw [h1] at hpp
      dsimp only at hpp
      have sums : ∀ μ4, ¬ oCmp (Q.1 t1) = 0 → MSt Q o (t1 + 1) l1 μ4 → FM μ μ4 → zCw d y_M_readSum [vr 355, vi b] μ4 (fun q μ2 => q = none ∧ MP Q o R μ none μ2) := by
        intro μ4 hop b1 b2
        rw [if_neg hop] at hpp
        refine zCw.use (hS.1 μ4 (t1 + 1) l1 (w + c1.length) b1 hg2.2.2.2.1) hds (fun r μ5 g => ?_)
        obtain ⟨rfl, g1, g2⟩ := g
        refine ⟨rfl, ?_⟩
        rcases h2 : S (t1 + 1) l1 (w + c1.length) with ⟨t2, _ | ⟨l2, m2, c2⟩⟩
        · rw [h2] at hpp
          exact fin0 hpp (g1 _ h2).1 (b2.tr (g1 _ h2).2)
        · rw [h2] at hpp
          exact fin1 hpp (g2 _ _ _ _ h2).1 (b2.tr (g2 _ _ _ _ h2).2)
      refine t0_w (by omega) hQ f1 (by decide) (fun c0 μ4 a1 a2 => ⟨_, rfl, by
        rw [if_neg (by decide)]
        exact sums μ4 (by rw [c0]; decide) a1 ((hF.tr f2).tr a2)⟩) (fun c0 => ⟨_, rfl, ?_⟩)
      rw [if_pos rfl]
      refine t0_w (by omega) hQ f1 (by decide) (fun c1 μ4 a1 a2 => ⟨_, rfl, by
        rw [if_neg (by decide)]
        exact sums μ4 (by rw [c1]; decide) a1 ((hF.tr f2).tr a2)⟩) (fun c1 => ⟨_, rfl, ?_⟩)
      rw [if_pos rfl]
      refine mu_w (by omega) hQ f1 (by decide) (fun c2 μ4 a1 a2 => ⟨rfl, sums μ4 (by rw [c2]; decide) a1 ((hF.tr f2).tr a2)⟩) (fun c2 μ4 a1 a2 => ⟨rfl, ?_⟩)
      have hop : oCmp (Q.1 t1) = 0 := by
        unfold oCmp
        rw [if_neg c0, if_neg c1, if_neg c2]
      rw [if_pos hop] at hpp
      exact sumn hpp a1 ((hF.tr f2).tr a2)
  · refine zSp.ss [vr 355, vi b, vx 0, vx 0] rfl (w_M_readPlain (Nat.le_trans (by decide) hd)) rfl rfl ?_
    (try simp only [zit_e, Bool.and_eq_true, Bool.or_eq_true, Bool.not_eq_true', Bool.and_eq_false_iff, Bool.or_eq_false_iff, Bool.not_eq_false', zbe, zdt, zdf, zb2_p, zbp_0, zbp_1, zbp_inj, zbp_01, Bool.true_eq_false, Bool.false_eq_true, true_and, and_true, Decidable.not_not, Classical.not_not, implies_true, List.nil_append, List.cons_append, List.append_assoc, Option.some.injEq, Sum.inl.injEq, zSw_c, zSw_n]); (try simp only [zit_e, Bool.and_eq_true, Bool.or_eq_true, Bool.not_eq_true', Bool.and_eq_false_iff, Bool.or_eq_false_iff, Bool.not_eq_false', zbe, zdt, zdf, zb2_p, zbp_0, zbp_1, zbp_inj, zbp_01, Bool.true_eq_false, Bool.false_eq_true, true_and, and_true, Decidable.not_not, Classical.not_not, implies_true, List.nil_append, List.cons_append, List.append_assoc, Option.some.injEq, Sum.inl.injEq, zSw_c, zSw_n, zc_355, f_M_fine, g_M_fine, f_M_sign, g_M_sign]); (try simp only [zi_cs, zi_c0, zii_cs, zii_c0, zl_cs, zl_c0, zll_cs, zll_c0, zr_cs, zr_c0, zrr_cs, zrr_c0, zxs_cs, zxs_c0, zxx_cs, zxx_c0, zfree_c0, zfree_c1, zfree_cs, zfree_cz, zlong_i, zlong_r, zlong_x, zset_0, zset_s, true_and, and_true, Option.some.injEq, Sum.inl.injEq, Sum.inr.injEq, zb2_p, zbp_0, zbp_1, zbp_inj, zbp_01, Nat.zero_add, Nat.reduceAdd, implies_true, List.nil_append, List.cons_append, List.append_assoc, Int.not_lt, Int.not_le, Decidable.not_not, Int.zero_add, Int.reduceLE, Int.reduceLT, Int.reduceEq, Int.reduceNe, Int.reduceAdd, Int.reduceSub, Int.reduceMul, Int.reduceNeg, Int.reduceToNat, Nat.reduceMul, Nat.reduceLT, Nat.reduceEqDiff, and_self, ite_true, ite_false, zx1, zx2, zRecv, List.length_cons, List.length_nil, ne_eq, not_true_eq_false, not_false_eq_true, true_or, or_true, or_false, false_or, and_false, false_and, zf01, zf10, reduceCtorEq, zSw_c, zSw_n, zm_r, zit_T, zit_F, false_implies, true_implies, zc_355, f_M_fine, g_M_fine, f_M_sign, g_M_sign])
    refine zLoop.mk (fun k ρ μ2 => ∃ (mo : Int), ρ = [vr 355, vi b, vi mo, vx 0] ∧ μ2 = μ ∧ (k : Int) = mo ∧ (mo = 0 ∨ mo = 1)) 1 ⟨1, rfl, rfl, rfl, Or.inr rfl⟩ ?_
    rintro k ρ μ2 ⟨mo, rfl, rfl, hk, hmo⟩
    (try simp only [zit_e, Bool.and_eq_true, Bool.or_eq_true, Bool.not_eq_true', Bool.and_eq_false_iff, Bool.or_eq_false_iff, Bool.not_eq_false', zbe, zdt, zdf, zb2_p, zbp_0, zbp_1, zbp_inj, zbp_01, Bool.true_eq_false, Bool.false_eq_true, true_and, and_true, Decidable.not_not, Classical.not_not, implies_true, List.nil_append, List.cons_append, List.append_assoc, Option.some.injEq, Sum.inl.injEq, zSw_c, zSw_n]); (try simp only [zit_e, Bool.and_eq_true, Bool.or_eq_true, Bool.not_eq_true', Bool.and_eq_false_iff, Bool.or_eq_false_iff, Bool.not_eq_false', zbe, zdt, zdf, zb2_p, zbp_0, zbp_1, zbp_inj, zbp_01, Bool.true_eq_false, Bool.false_eq_true, true_and, and_true, Decidable.not_not, Classical.not_not, implies_true, List.nil_append, List.cons_append, List.append_assoc, Option.some.injEq, Sum.inl.injEq, zSw_c, zSw_n, zc_355, f_M_fine, g_M_fine, f_M_sign, g_M_sign]); (try simp only [zi_cs, zi_c0, zii_cs, zii_c0, zl_cs, zl_c0, zll_cs, zll_c0, zr_cs, zr_c0, zrr_cs, zrr_c0, zxs_cs, zxs_c0, zxx_cs, zxx_c0, zfree_c0, zfree_c1, zfree_cs, zfree_cz, zlong_i, zlong_r, zlong_x, zset_0, zset_s, true_and, and_true, Option.some.injEq, Sum.inl.injEq, Sum.inr.injEq, zb2_p, zbp_0, zbp_1, zbp_inj, zbp_01, Nat.zero_add, Nat.reduceAdd, implies_true, List.nil_append, List.cons_append, List.append_assoc, Int.not_lt, Int.not_le, Decidable.not_not, Int.zero_add, Int.reduceLE, Int.reduceLT, Int.reduceEq, Int.reduceNe, Int.reduceAdd, Int.reduceSub, Int.reduceMul, Int.reduceNeg, Int.reduceToNat, Nat.reduceMul, Nat.reduceLT, Nat.reduceEqDiff, and_self, ite_true, ite_false, zx1, zx2, zRecv, List.length_cons, List.length_nil, ne_eq, not_true_eq_false, not_false_eq_true, true_or, or_true, or_false, false_or, and_false, false_and, zf01, zf10, reduceCtorEq, zSw_c, zSw_n, zm_r, zit_T, zit_F, false_implies, true_implies, zc_355, f_M_fine, g_M_fine, f_M_sign, g_M_sign])
    rw [if_pos h]
    refine zif (fun c => ?_) (fun c => trivial)
    exact t0_n (by omega) h ⟨_, rfl, 0, by omega, 0, rfl, rfl, rfl, Or.inl rfl⟩

