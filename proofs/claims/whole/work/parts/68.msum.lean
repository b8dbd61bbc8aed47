/-! the reference's sums, tests between words -/
theorem q_M_readSum {d dp : Nat} (hd : 6 ≤ d) (hdp : dp + 1 ≤ d) {Q : zTk} {o : Bool} {pp : Pr} {b : Int} (hQ : okK Q) (hG : PG Q.1 Q.2.2.2 pp) (hp : MCT dp y_M_readTerm [vi b] Q o pp) : MCT d y_M_readSum [vi b] Q o (pRow Q.1 oSum false pp) := by
  refine ⟨fun μ t l w h hl => ?_, fun μ h => ?_⟩
  · refine zSp.ss [vr 355, vi b] rfl (w_M_readSum (Nat.le_trans (by decide) hd)) rfl rfl ?_
    (try simp only [zit_e, Bool.and_eq_true, Bool.or_eq_true, Bool.not_eq_true', Bool.and_eq_false_iff, Bool.or_eq_false_iff, Bool.not_eq_false', zbe, zdt, zdf, zb2_p, zbp_0, zbp_1, zbp_inj, zbp_01, Bool.true_eq_false, Bool.false_eq_true, true_and, and_true, Decidable.not_not, Classical.not_not, implies_true, List.nil_append, List.cons_append, List.append_assoc, Option.some.injEq, Sum.inl.injEq, zSw_c, zSw_n]); (try simp only [zit_e, Bool.and_eq_true, Bool.or_eq_true, Bool.not_eq_true', Bool.and_eq_false_iff, Bool.or_eq_false_iff, Bool.not_eq_false', zbe, zdt, zdf, zb2_p, zbp_0, zbp_1, zbp_inj, zbp_01, Bool.true_eq_false, Bool.false_eq_true, true_and, and_true, Decidable.not_not, Classical.not_not, implies_true, List.nil_append, List.cons_append, List.append_assoc, Option.some.injEq, Sum.inl.injEq, zSw_c, zSw_n, zc_355, f_M_sign, g_M_sign]); (try simp only [zi_cs, zi_c0, zii_cs, zii_c0, zl_cs, zl_c0, zll_cs, zll_c0, zr_cs, zr_c0, zrr_cs, zrr_c0, zxs_cs, zxs_c0, zxx_cs, zxx_c0, zfree_c0, zfree_c1, zfree_cs, zfree_cz, zlong_i, zlong_r, zlong_x, zset_0, zset_s, true_and, and_true, Option.some.injEq, Sum.inl.injEq, Sum.inr.injEq, zb2_p, zbp_0, zbp_1, zbp_inj, zbp_01, Nat.zero_add, Nat.reduceAdd, implies_true, List.nil_append, List.cons_append, List.append_assoc, Int.not_lt, Int.not_le, Decidable.not_not, Int.zero_add, Int.reduceLE, Int.reduceLT, Int.reduceEq, Int.reduceNe, Int.reduceAdd, Int.reduceSub, Int.reduceMul, Int.reduceNeg, Int.reduceToNat, Nat.reduceMul, Nat.reduceLT, Nat.reduceEqDiff, and_self, ite_true, ite_false, zx1, zx2, zRecv, List.length_cons, List.length_nil, ne_eq, not_true_eq_false, not_false_eq_true, true_or, or_true, or_false, false_or, and_false, false_and, zf01, zf10, reduceCtorEq, zSw_c, zSw_n, zm_r, zit_T, zit_F, false_implies, true_implies, zc_355, f_M_sign, g_M_sign])
    refine zCw.use (hp.1 μ t l w h hl) hdp (fun r μ1 e => ?_)
    obtain ⟨rfl, e1, e2⟩ := e
    refine ⟨rfl, ?_⟩
    have hg := hG t l w hl h.2.2.2.2.2
    generalize hR : pRow Q.1 oSum false pp t l w = R
    refine zLoop.mk (fun k ρ μ2 => ρ = [vr 355, vi b] ∧ ((∃ t1, R = (t1, none) ∧ μ2 355 19 = Q.2.2.1 t1 ∧ FM μ μ2 ∧ k = 0) ∨ ∃ (t1 l1 f : Nat) (m1 : Mn) (cc : List Int), MSt Q o t1 l1 μ2 ∧ l1 ≤ 50 ∧ FM μ μ2 ∧ Q.2.2.2 ≤ t1 + f ∧ R = pCat cc (pLoop Q.1 oSum false pp f m1 t1 l1 (w + cc.length)) ∧ k = Q.2.2.2 + 1 - t1)) (match pp t l w with
      | (t1, none) => 0
      | (t1, some _) => Q.2.2.2 + 1 - t1) ⟨rfl, ?_⟩ ?_
    · rcases h1 : pp t l w with ⟨t1, _ | ⟨l1, m1, c1⟩⟩
      · left
        rw [pRow_n h1] at hR
        exact ⟨t1, hR.symm, (e1 _ h1).1, (e1 _ h1).2, rfl⟩
      · right
        have hg1 := hg.2 _ _ _ _ h1
        have hQ1 := hQ.1
        rw [pRow_s h1] at hR
        exact ⟨t1, l1, 400, m1, c1, (e2 _ _ _ _ h1).1, hg1.2.2.2.1, (e2 _ _ _ _ h1).2, by omega, hR.symm, rfl⟩
    clear hR e1 e2 hg
    rintro k ρ μ2 ⟨rfl, ⟨t1, hR, hb1, hF, rfl⟩ | ⟨t1, l1, f, m1, cc, hM, hl1, hF, hf, hR, rfl⟩⟩
    · have hnf := bad_n hQ hb1
      (try simp only [zit_e, Bool.and_eq_true, Bool.or_eq_true, Bool.not_eq_true', Bool.and_eq_false_iff, Bool.or_eq_false_iff, Bool.not_eq_false', zbe, zdt, zdf, zb2_p, zbp_0, zbp_1, zbp_inj, zbp_01, Bool.true_eq_false, Bool.false_eq_true, true_and, and_true, Decidable.not_not, Classical.not_not, implies_true, List.nil_append, List.cons_append, List.append_assoc, Option.some.injEq, Sum.inl.injEq, zSw_c, zSw_n]); (try simp only [zit_e, Bool.and_eq_true, Bool.or_eq_true, Bool.not_eq_true', Bool.and_eq_false_iff, Bool.or_eq_false_iff, Bool.not_eq_false', zbe, zdt, zdf, zb2_p, zbp_0, zbp_1, zbp_inj, zbp_01, Bool.true_eq_false, Bool.false_eq_true, true_and, and_true, Decidable.not_not, Classical.not_not, implies_true, List.nil_append, List.cons_append, List.append_assoc, Option.some.injEq, Sum.inl.injEq, zSw_c, zSw_n, zc_355, f_M_sign, g_M_sign]); (try simp only [zi_cs, zi_c0, zii_cs, zii_c0, zl_cs, zl_c0, zll_cs, zll_c0, zr_cs, zr_c0, zrr_cs, zrr_c0, zxs_cs, zxs_c0, zxx_cs, zxx_c0, zfree_c0, zfree_c1, zfree_cs, zfree_cz, zlong_i, zlong_r, zlong_x, zset_0, zset_s, true_and, and_true, Option.some.injEq, Sum.inl.injEq, Sum.inr.injEq, zb2_p, zbp_0, zbp_1, zbp_inj, zbp_01, Nat.zero_add, Nat.reduceAdd, implies_true, List.nil_append, List.cons_append, List.append_assoc, Int.not_lt, Int.not_le, Decidable.not_not, Int.zero_add, Int.reduceLE, Int.reduceLT, Int.reduceEq, Int.reduceNe, Int.reduceAdd, Int.reduceSub, Int.reduceMul, Int.reduceNeg, Int.reduceToNat, Nat.reduceMul, Nat.reduceLT, Nat.reduceEqDiff, and_self, ite_true, ite_false, zx1, zx2, zRecv, List.length_cons, List.length_nil, ne_eq, not_true_eq_false, not_false_eq_true, true_or, or_true, or_false, false_or, and_false, false_and, zf01, zf10, reduceCtorEq, zSw_c, zSw_n, zm_r, zit_T, zit_F, false_implies, true_implies, zc_355, f_M_sign, g_M_sign])
      refine t0_n (by omega) hnf ⟨_, rfl, ?_⟩
      rw [if_neg (by decide)]
      refine t0_n (by omega) hnf ⟨_, rfl, ?_⟩
      rw [if_neg (by decide)]
      exact MP_n hR hb1 hF
    · have hgo : ∀ μ3, ¬ oSum (Q.1 t1) = 0 → MSt Q o (t1 + 1) l1 μ3 → FM μ μ3 → zCw d y_M_readTerm [vr 355, vi b] μ3 (fun q μ2 => q = none ∧ ∃ m', m' < Q.2.2.2 + 1 - t1 ∧ ((∃ t1, R = (t1, none) ∧ μ2 355 19 = Q.2.2.1 t1 ∧ FM μ μ2 ∧ m' = 0) ∨ ∃ (t1 l1 f : Nat) (m1 : Mn) (cc : List Int), MSt Q o t1 l1 μ2 ∧ l1 ≤ 50 ∧ FM μ μ2 ∧ Q.2.2.2 ≤ t1 + f ∧ R = pCat cc (pLoop Q.1 oSum false pp f m1 t1 l1 (w + cc.length)) ∧ m' = Q.2.2.2 + 1 - t1)) := by
        intro μ3 hop a1 a2
        have htn : t1 < Q.2.2.2 := zNlt (c := Q.1) hQ.2.1 (fun q => hop (by rw [q]; rfl))
        obtain ⟨g, rfl⟩ : ∃ g, f = g + 1 := ⟨f - 1, by omega⟩
        refine zCw.use (hp.1 μ3 (t1 + 1) l1 (w + cc.length ) a1 hl1) hdp (fun r μ4 e => ?_)
        obtain ⟨rfl, e1, e2⟩ := e
        refine ⟨rfl, ?_⟩
        have hg := hG (t1 + 1) l1 (w + cc.length ) hl1 htn
        rcases h1 : pp (t1 + 1) l1 (w + cc.length ) with ⟨t2, _ | ⟨l2, m2, c2⟩⟩
        · rw [pLoop_n hop h1] at hR
          exact ⟨0, by omega, Or.inl ⟨t2, hR, (e1 _ h1).1, a2.tr (e1 _ h1).2, rfl⟩⟩
        · have hg1 := hg.2 _ _ _ _ h1
          rw [pLoop_s hop h1, pCat_cat] at hR
          refine ⟨_, ?_, Or.inr ⟨t2, l2, g, mOp (oSum (Q.1 t1)) m1 m2, cc ++ (c2 ++ [oSum (Q.1 t1) * 4096]), (e2 _ _ _ _ h1).1, hg1.2.2.2.1, a2.tr (e2 _ _ _ _ h1).2, by omega, ?_, rfl⟩⟩
          · omega
          · rw [hR]
            simp only [List.length_append, List.length_cons, List.length_nil, Bool.false_eq_true, if_false]
            congr 2
            omega
      (try simp only [zit_e, Bool.and_eq_true, Bool.or_eq_true, Bool.not_eq_true', Bool.and_eq_false_iff, Bool.or_eq_false_iff, Bool.not_eq_false', zbe, zdt, zdf, zb2_p, zbp_0, zbp_1, zbp_inj, zbp_01, Bool.true_eq_false, Bool.false_eq_true, true_and, and_true, Decidable.not_not, Classical.not_not, implies_true, List.nil_append, List.cons_append, List.append_assoc, Option.some.injEq, Sum.inl.injEq, zSw_c, zSw_n]); (try simp only [zit_e, Bool.and_eq_true, Bool.or_eq_true, Bool.not_eq_true', Bool.and_eq_false_iff, Bool.or_eq_false_iff, Bool.not_eq_false', zbe, zdt, zdf, zb2_p, zbp_0, zbp_1, zbp_inj, zbp_01, Bool.true_eq_false, Bool.false_eq_true, true_and, and_true, Decidable.not_not, Classical.not_not, implies_true, List.nil_append, List.cons_append, List.append_assoc, Option.some.injEq, Sum.inl.injEq, zSw_c, zSw_n, zc_355, f_M_sign, g_M_sign]); (try simp only [zi_cs, zi_c0, zii_cs, zii_c0, zl_cs, zl_c0, zll_cs, zll_c0, zr_cs, zr_c0, zrr_cs, zrr_c0, zxs_cs, zxs_c0, zxx_cs, zxx_c0, zfree_c0, zfree_c1, zfree_cs, zfree_cz, zlong_i, zlong_r, zlong_x, zset_0, zset_s, true_and, and_true, Option.some.injEq, Sum.inl.injEq, Sum.inr.injEq, zb2_p, zbp_0, zbp_1, zbp_inj, zbp_01, Nat.zero_add, Nat.reduceAdd, implies_true, List.nil_append, List.cons_append, List.append_assoc, Int.not_lt, Int.not_le, Decidable.not_not, Int.zero_add, Int.reduceLE, Int.reduceLT, Int.reduceEq, Int.reduceNe, Int.reduceAdd, Int.reduceSub, Int.reduceMul, Int.reduceNeg, Int.reduceToNat, Nat.reduceMul, Nat.reduceLT, Nat.reduceEqDiff, and_self, ite_true, ite_false, zx1, zx2, zRecv, List.length_cons, List.length_nil, ne_eq, not_true_eq_false, not_false_eq_true, true_or, or_true, or_false, false_or, and_false, false_and, zf01, zf10, reduceCtorEq, zSw_c, zSw_n, zm_r, zit_T, zit_F, false_implies, true_implies, zc_355, f_M_sign, g_M_sign])
      refine t0_w (by omega) hQ hM (by decide) (fun c0 μ3 a1 a2 => ⟨_, rfl, by
        rw [if_pos (by decide)]
        exact hgo μ3 (by rw [c0]; decide) a1 (hF.tr a2)⟩) (fun c0 => ⟨_, rfl, ?_⟩)
      rw [if_neg (by decide)]
      refine t0_w (by omega) hQ hM (by decide) (fun c1 μ3 a1 a2 => ⟨_, rfl, by
        rw [if_pos (by decide)]
        exact hgo μ3 (by rw [c1]; decide) a1 (hF.tr a2)⟩) (fun c1 => ⟨_, rfl, ?_⟩)
      rw [if_neg (by decide)]
      have hop : oSum (Q.1 t1) = 0 := by
        unfold oSum
        rw [if_neg c0, if_neg c1]
      rw [pLoop_0 hop] at hR
      exact MP_s hR hM hF
  · refine zSp.ss [vr 355, vi b] rfl (w_M_readSum (Nat.le_trans (by decide) hd)) rfl rfl ?_
    (try simp only [zit_e, Bool.and_eq_true, Bool.or_eq_true, Bool.not_eq_true', Bool.and_eq_false_iff, Bool.or_eq_false_iff, Bool.not_eq_false', zbe, zdt, zdf, zb2_p, zbp_0, zbp_1, zbp_inj, zbp_01, Bool.true_eq_false, Bool.false_eq_true, true_and, and_true, Decidable.not_not, Classical.not_not, implies_true, List.nil_append, List.cons_append, List.append_assoc, Option.some.injEq, Sum.inl.injEq, zSw_c, zSw_n]); (try simp only [zit_e, Bool.and_eq_true, Bool.or_eq_true, Bool.not_eq_true', Bool.and_eq_false_iff, Bool.or_eq_false_iff, Bool.not_eq_false', zbe, zdt, zdf, zb2_p, zbp_0, zbp_1, zbp_inj, zbp_01, Bool.true_eq_false, Bool.false_eq_true, true_and, and_true, Decidable.not_not, Classical.not_not, implies_true, List.nil_append, List.cons_append, List.append_assoc, Option.some.injEq, Sum.inl.injEq, zSw_c, zSw_n, zc_355, f_M_sign, g_M_sign]); (try simp only [zi_cs, zi_c0, zii_cs, zii_c0, zl_cs, zl_c0, zll_cs, zll_c0, zr_cs, zr_c0, zrr_cs, zrr_c0, zxs_cs, zxs_c0, zxx_cs, zxx_c0, zfree_c0, zfree_c1, zfree_cs, zfree_cz, zlong_i, zlong_r, zlong_x, zset_0, zset_s, true_and, and_true, Option.some.injEq, Sum.inl.injEq, Sum.inr.injEq, zb2_p, zbp_0, zbp_1, zbp_inj, zbp_01, Nat.zero_add, Nat.reduceAdd, implies_true, List.nil_append, List.cons_append, List.append_assoc, Int.not_lt, Int.not_le, Decidable.not_not, Int.zero_add, Int.reduceLE, Int.reduceLT, Int.reduceEq, Int.reduceNe, Int.reduceAdd, Int.reduceSub, Int.reduceMul, Int.reduceNeg, Int.reduceToNat, Nat.reduceMul, Nat.reduceLT, Nat.reduceEqDiff, and_self, ite_true, ite_false, zx1, zx2, zRecv, List.length_cons, List.length_nil, ne_eq, not_true_eq_false, not_false_eq_true, true_or, or_true, or_false, false_or, and_false, false_and, zf01, zf10, reduceCtorEq, zSw_c, zSw_n, zm_r, zit_T, zit_F, false_implies, true_implies, zc_355, f_M_sign, g_M_sign])
    refine zCw.use (hp.2 μ h) hdp (fun r μ1 e => ?_)
    obtain ⟨rfl, rfl⟩ := e
    refine ⟨rfl, ?_⟩
    refine zLoop.mk (fun k ρ μ2 => ρ = [vr 355, vi b] ∧ μ2 = μ1) 0 ⟨rfl, rfl⟩ ?_
    rintro k ρ μ2 ⟨rfl, rfl⟩
    (try simp only [zit_e, Bool.and_eq_true, Bool.or_eq_true, Bool.not_eq_true', Bool.and_eq_false_iff, Bool.or_eq_false_iff, Bool.not_eq_false', zbe, zdt, zdf, zb2_p, zbp_0, zbp_1, zbp_inj, zbp_01, Bool.true_eq_false, Bool.false_eq_true, true_and, and_true, Decidable.not_not, Classical.not_not, implies_true, List.nil_append, List.cons_append, List.append_assoc, Option.some.injEq, Sum.inl.injEq, zSw_c, zSw_n]); (try simp only [zit_e, Bool.and_eq_true, Bool.or_eq_true, Bool.not_eq_true', Bool.and_eq_false_iff, Bool.or_eq_false_iff, Bool.not_eq_false', zbe, zdt, zdf, zb2_p, zbp_0, zbp_1, zbp_inj, zbp_01, Bool.true_eq_false, Bool.false_eq_true, true_and, and_true, Decidable.not_not, Classical.not_not, implies_true, List.nil_append, List.cons_append, List.append_assoc, Option.some.injEq, Sum.inl.injEq, zSw_c, zSw_n, zc_355, f_M_sign, g_M_sign]); (try simp only [zi_cs, zi_c0, zii_cs, zii_c0, zl_cs, zl_c0, zll_cs, zll_c0, zr_cs, zr_c0, zrr_cs, zrr_c0, zxs_cs, zxs_c0, zxx_cs, zxx_c0, zfree_c0, zfree_c1, zfree_cs, zfree_cz, zlong_i, zlong_r, zlong_x, zset_0, zset_s, true_and, and_true, Option.some.injEq, Sum.inl.injEq, Sum.inr.injEq, zb2_p, zbp_0, zbp_1, zbp_inj, zbp_01, Nat.zero_add, Nat.reduceAdd, implies_true, List.nil_append, List.cons_append, List.append_assoc, Int.not_lt, Int.not_le, Decidable.not_not, Int.zero_add, Int.reduceLE, Int.reduceLT, Int.reduceEq, Int.reduceNe, Int.reduceAdd, Int.reduceSub, Int.reduceMul, Int.reduceNeg, Int.reduceToNat, Nat.reduceMul, Nat.reduceLT, Nat.reduceEqDiff, and_self, ite_true, ite_false, zx1, zx2, zRecv, List.length_cons, List.length_nil, ne_eq, not_true_eq_false, not_false_eq_true, true_or, or_true, or_false, false_or, and_false, false_and, zf01, zf10, reduceCtorEq, zSw_c, zSw_n, zm_r, zit_T, zit_F, false_implies, true_implies, zc_355, f_M_sign, g_M_sign])
    refine t0_n (by omega) h ⟨_, rfl, ?_⟩
    rw [if_neg (by decide)]
    refine t0_n (by omega) h ⟨_, rfl, ?_⟩
    rw [if_neg (by decide)]
    done
def y_M_readPlain : zMt := (⟨"DebtDoorsModel", "readPlain", "(I)V"⟩, prog_14_method_54_code, 4, none)
theorem m_M_readPlain : Cond.instanceMethod y_M_readPlain.1 ∈ zTb ∧ Cond.selects y_M_readPlain.1.cls y_M_readPlain.1 y_M_readPlain.1 ∈ zTb ∧ Cond.initialized y_M_readPlain.1.cls ∈ zTb ∧ Cond.code y_M_readPlain.1 y_M_readPlain.2.1 y_M_readPlain.2.2.1 y_M_readPlain.2.2.2 ∈ zTb ∧ (y_M_readPlain.1.cls ≠ "java/lang/invoke/MethodHandle" ∧ y_M_readPlain.1.cls ≠ "java/lang/invoke/VarHandle" ∧ (parseMethodDescriptor y_M_readPlain.1.desc).map (fun d => d.parameters.length) = some 1) ∧ y_M_readPlain.2.2.1 ≤ 20 :=
  ⟨(zTb_in 1769 (by decide +kernel) (by decide +kernel)), (List.mem_filter.mpr ⟨List.mem_append_left _ (by decide +kernel), by decide +kernel⟩), (zTb_in 151 (by decide +kernel) (by decide +kernel)), (zTb_in 1770 (by decide +kernel) (by decide +kernel)), by decide +kernel, by decide +kernel⟩
theorem lv_M_246 : zLv "DebtDoorsModel" 246 y_M_readPlain 1 12 := ⟨⟨(zTb_in 1767 (by decide +kernel) (by decide +kernel)), m_M_readPlain.1, m_M_readPlain.2.1, m_M_readPlain.2.2⟩, _, rfl, rfl⟩
def y_M_readBoth : zMt := (⟨"DebtDoorsModel", "readBoth", "(I)V"⟩, prog_14_method_53_code, 2, none)
theorem d_M_readBoth_0 : decode prog_14_method_53_code 0 = .ok (.aload_n 0, 1) := by decide +kernel
theorem d_M_readBoth_1 : decode prog_14_method_53_code 1 = .ok (.iload_n 1, 1) := by decide +kernel
theorem d_M_readBoth_2 : decode prog_14_method_53_code 2 = .ok (.invokevirtual 246, 3) := by decide +kernel
theorem d_M_readBoth_5 : decode prog_14_method_53_code 5 = .ok (.aload_n 0, 1) := by decide +kernel
theorem d_M_readBoth_6 : decode prog_14_method_53_code 6 = .ok (.bipush 7, 2) := by decide +kernel
theorem d_M_readBoth_8 : decode prog_14_method_53_code 8 = .ok (.invokevirtual 210, 3) := by decide +kernel
theorem d_M_readBoth_11 : decode prog_14_method_53_code 11 = .ok (.ifCond .eq 11, 3) := by decide +kernel
theorem d_M_readBoth_14 : decode prog_14_method_53_code 14 = .ok (.aload_n 0, 1) := by decide +kernel
theorem d_M_readBoth_15 : decode prog_14_method_53_code 15 = .ok (.iload_n 1, 1) := by decide +kernel
theorem d_M_readBoth_16 : decode prog_14_method_53_code 16 = .ok (.invokevirtual 246, 3) := by decide +kernel
theorem d_M_readBoth_19 : decode prog_14_method_53_code 19 = .ok (.goto (-14), 3) := by decide +kernel
theorem d_M_readBoth_22 : decode prog_14_method_53_code 22 = .ok (.return_, 1) := by decide +kernel
def w_M_readBoth {d : Nat} (hd : 1 ≤ d) := (show SS ("DebtDoorsModel", prog_14_method_53_code, 2) (none) d 0 0 0 0 _ from (sS (p1 := 5) (sV (xVv lv_M_246 (xA (rAi (rAr rA0 (rAn 0 d_M_readBoth_0 rfl)) (rIn 1 d_M_readBoth_1 rfl))) (by decide) d_M_readBoth_2)) (sS (p1 := 22) (sLp (ps := 5) (tt := 14) (pn := 22) (p1 := 0) (p2 := 0) (xNot (xJ1 (tgt := 22) k_eq (xV lv_M_210 (xA (rAi (rAr rA0 (rAn 0 d_M_readBoth_5 rfl)) (rB d_M_readBoth_6 rfl))) (by decide) d_M_readBoth_8) d_M_readBoth_11 (by decide))) (sGo (pn := 5) (sV (xVv lv_M_246 (xA (rAi (rAr rA0 (rAn 0 d_M_readBoth_14 rfl)) (rIn 1 d_M_readBoth_15 rfl))) (by decide) d_M_readBoth_16)) d_M_readBoth_19 (by decide)) s0) (sRv d_M_readBoth_22 rfl))))
theorem m_M_readBoth : Cond.instanceMethod y_M_readBoth.1 ∈ zTb ∧ Cond.selects y_M_readBoth.1.cls y_M_readBoth.1 y_M_readBoth.1 ∈ zTb ∧ Cond.initialized y_M_readBoth.1.cls ∈ zTb ∧ Cond.code y_M_readBoth.1 y_M_readBoth.2.1 y_M_readBoth.2.2.1 y_M_readBoth.2.2.2 ∈ zTb ∧ (y_M_readBoth.1.cls ≠ "java/lang/invoke/MethodHandle" ∧ y_M_readBoth.1.cls ≠ "java/lang/invoke/VarHandle" ∧ (parseMethodDescriptor y_M_readBoth.1.desc).map (fun d => d.parameters.length) = some 1) ∧ y_M_readBoth.2.2.1 ≤ 20 :=
  ⟨(zTb_in 1765 (by decide +kernel) (by decide +kernel)), (List.mem_filter.mpr ⟨List.mem_append_left _ (by decide +kernel), by decide +kernel⟩), (zTb_in 151 (by decide +kernel) (by decide +kernel)), (zTb_in 1766 (by decide +kernel) (by decide +kernel)), by decide +kernel, by decide +kernel⟩
theorem lv_M_243 : zLv "DebtDoorsModel" 243 y_M_readBoth 1 12 := ⟨⟨(zTb_in 1763 (by decide +kernel) (by decide +kernel)), m_M_readBoth.1, m_M_readBoth.2.1, m_M_readBoth.2.2⟩, _, rfl, rfl⟩
def y_M_readTest : zMt := (⟨"DebtDoorsModel", "readTest", "(I)V"⟩, prog_14_method_52_code, 2, none)
theorem d_M_readTest_0 : decode prog_14_method_52_code 0 = .ok (.aload_n 0, 1) := by decide +kernel
theorem d_M_readTest_1 : decode prog_14_method_52_code 1 = .ok (.iload_n 1, 1) := by decide +kernel
theorem d_M_readTest_2 : decode prog_14_method_52_code 2 = .ok (.invokevirtual 243, 3) := by decide +kernel
theorem d_M_readTest_5 : decode prog_14_method_52_code 5 = .ok (.aload_n 0, 1) := by decide +kernel
theorem d_M_readTest_6 : decode prog_14_method_52_code 6 = .ok (.bipush 6, 2) := by decide +kernel
theorem d_M_readTest_8 : decode prog_14_method_52_code 8 = .ok (.invokevirtual 210, 3) := by decide +kernel
theorem d_M_readTest_11 : decode prog_14_method_52_code 11 = .ok (.ifCond .eq 11, 3) := by decide +kernel
theorem d_M_readTest_14 : decode prog_14_method_52_code 14 = .ok (.aload_n 0, 1) := by decide +kernel
theorem d_M_readTest_15 : decode prog_14_method_52_code 15 = .ok (.iload_n 1, 1) := by decide +kernel
theorem d_M_readTest_16 : decode prog_14_method_52_code 16 = .ok (.invokevirtual 243, 3) := by decide +kernel
theorem d_M_readTest_19 : decode prog_14_method_52_code 19 = .ok (.goto (-14), 3) := by decide +kernel
theorem d_M_readTest_22 : decode prog_14_method_52_code 22 = .ok (.return_, 1) := by decide +kernel
def w_M_readTest {d : Nat} (hd : 1 ≤ d) := (show SS ("DebtDoorsModel", prog_14_method_52_code, 2) (none) d 0 0 0 0 _ from (sS (p1 := 5) (sV (xVv lv_M_243 (xA (rAi (rAr rA0 (rAn 0 d_M_readTest_0 rfl)) (rIn 1 d_M_readTest_1 rfl))) (by decide) d_M_readTest_2)) (sS (p1 := 22) (sLp (ps := 5) (tt := 14) (pn := 22) (p1 := 0) (p2 := 0) (xNot (xJ1 (tgt := 22) k_eq (xV lv_M_210 (xA (rAi (rAr rA0 (rAn 0 d_M_readTest_5 rfl)) (rB d_M_readTest_6 rfl))) (by decide) d_M_readTest_8) d_M_readTest_11 (by decide))) (sGo (pn := 5) (sV (xVv lv_M_243 (xA (rAi (rAr rA0 (rAn 0 d_M_readTest_14 rfl)) (rIn 1 d_M_readTest_15 rfl))) (by decide) d_M_readTest_16)) d_M_readTest_19 (by decide)) s0) (sRv d_M_readTest_22 rfl))))
theorem m_M_readTest : Cond.instanceMethod y_M_readTest.1 ∈ zTb ∧ Cond.selects y_M_readTest.1.cls y_M_readTest.1 y_M_readTest.1 ∈ zTb ∧ Cond.initialized y_M_readTest.1.cls ∈ zTb ∧ Cond.code y_M_readTest.1 y_M_readTest.2.1 y_M_readTest.2.2.1 y_M_readTest.2.2.2 ∈ zTb ∧ (y_M_readTest.1.cls ≠ "java/lang/invoke/MethodHandle" ∧ y_M_readTest.1.cls ≠ "java/lang/invoke/VarHandle" ∧ (parseMethodDescriptor y_M_readTest.1.desc).map (fun d => d.parameters.length) = some 1) ∧ y_M_readTest.2.2.1 ≤ 20 :=
  ⟨(zTb_in 1761 (by decide +kernel) (by decide +kernel)), (List.mem_filter.mpr ⟨List.mem_append_left _ (by decide +kernel), by decide +kernel⟩), (zTb_in 151 (by decide +kernel) (by decide +kernel)), (zTb_in 1762 (by decide +kernel) (by decide +kernel)), by decide +kernel, by decide +kernel⟩
theorem lv_M_230 : zLv "DebtDoorsModel" 230 y_M_readTest 1 12 := ⟨⟨(zTb_in 1759 (by decide +kernel) (by decide +kernel)), m_M_readTest.1, m_M_readTest.2.1, m_M_readTest.2.2⟩, _, rfl, rfl⟩
theorem d_M_readPlain_0 : decode prog_14_method_54_code 0 = .ok (.iconst 1, 1) := by decide +kernel
theorem d_M_readPlain_1 : decode prog_14_method_54_code 1 = .ok (.istore_n 2, 1) := by decide +kernel
theorem d_M_readPlain_2 : decode prog_14_method_54_code 2 = .ok (.iload_n 2, 1) := by decide +kernel
theorem d_M_readPlain_3 : decode prog_14_method_54_code 3 = .ok (.ifCond .eq 13, 3) := by decide +kernel
theorem d_M_readPlain_6 : decode prog_14_method_54_code 6 = .ok (.aload_n 0, 1) := by decide +kernel
theorem d_M_readPlain_7 : decode prog_14_method_54_code 7 = .ok (.bipush 8, 2) := by decide +kernel
theorem d_M_readPlain_9 : decode prog_14_method_54_code 9 = .ok (.invokevirtual 210, 3) := by decide +kernel
theorem d_M_readPlain_12 : decode prog_14_method_54_code 12 = .ok (.istore_n 2, 1) := by decide +kernel
theorem d_M_readPlain_13 : decode prog_14_method_54_code 13 = .ok (.goto (-11), 3) := by decide +kernel
theorem d_M_readPlain_16 : decode prog_14_method_54_code 16 = .ok (.aload_n 0, 1) := by decide +kernel
theorem d_M_readPlain_17 : decode prog_14_method_54_code 17 = .ok (.invokevirtual 203, 3) := by decide +kernel
theorem d_M_readPlain_20 : decode prog_14_method_54_code 20 = .ok (.ifCond .ne 4, 3) := by decide +kernel
theorem d_M_readPlain_23 : decode prog_14_method_54_code 23 = .ok (.return_, 1) := by decide +kernel
theorem d_M_readPlain_24 : decode prog_14_method_54_code 24 = .ok (.aload_n 0, 1) := by decide +kernel
theorem d_M_readPlain_25 : decode prog_14_method_54_code 25 = .ok (.getfield 50, 3) := by decide +kernel
theorem d_M_readPlain_28 : decode prog_14_method_54_code 28 = .ok (.aload_n 0, 1) := by decide +kernel
theorem d_M_readPlain_29 : decode prog_14_method_54_code 29 = .ok (.getfield 207, 3) := by decide +kernel
theorem d_M_readPlain_32 : decode prog_14_method_54_code 32 = .ok (.iaload, 1) := by decide +kernel
theorem d_M_readPlain_33 : decode prog_14_method_54_code 33 = .ok (.istore_n 3, 1) := by decide +kernel
theorem d_M_readPlain_34 : decode prog_14_method_54_code 34 = .ok (.iload_n 3, 1) := by decide +kernel
theorem d_M_readPlain_35 : decode prog_14_method_54_code 35 = .ok (.bipush 40, 2) := by decide +kernel
theorem d_M_readPlain_37 : decode prog_14_method_54_code 37 = .ok (.invokestatic 249, 3) := by decide +kernel
theorem d_M_readPlain_40 : decode prog_14_method_54_code 40 = .ok (.if_icmp .ne 50, 3) := by decide +kernel
theorem d_M_readPlain_43 : decode prog_14_method_54_code 43 = .ok (.iload_n 1, 1) := by decide +kernel
theorem d_M_readPlain_44 : decode prog_14_method_54_code 44 = .ok (.bipush 8, 2) := by decide +kernel
theorem d_M_readPlain_46 : decode prog_14_method_54_code 46 = .ok (.if_icmp .ne 7, 3) := by decide +kernel
theorem d_M_readPlain_49 : decode prog_14_method_54_code 49 = .ok (.aload_n 0, 1) := by decide +kernel
theorem d_M_readPlain_50 : decode prog_14_method_54_code 50 = .ok (.invokevirtual 213, 3) := by decide +kernel
theorem d_M_readPlain_53 : decode prog_14_method_54_code 53 = .ok (.aload_n 0, 1) := by decide +kernel
theorem d_M_readPlain_54 : decode prog_14_method_54_code 54 = .ok (.invokevirtual 203, 3) := by decide +kernel
theorem d_M_readPlain_57 : decode prog_14_method_54_code 57 = .ok (.ifCond .ne 4, 3) := by decide +kernel
theorem d_M_readPlain_60 : decode prog_14_method_54_code 60 = .ok (.return_, 1) := by decide +kernel
theorem d_M_readPlain_61 : decode prog_14_method_54_code 61 = .ok (.aload_n 0, 1) := by decide +kernel
theorem d_M_readPlain_62 : decode prog_14_method_54_code 62 = .ok (.dup, 1) := by decide +kernel
theorem d_M_readPlain_63 : decode prog_14_method_54_code 63 = .ok (.getfield 207, 3) := by decide +kernel
theorem d_M_readPlain_66 : decode prog_14_method_54_code 66 = .ok (.iconst 1, 1) := by decide +kernel
theorem d_M_readPlain_67 : decode prog_14_method_54_code 67 = .ok (.iadd, 1) := by decide +kernel
theorem d_M_readPlain_68 : decode prog_14_method_54_code 68 = .ok (.putfield 207, 3) := by decide +kernel
theorem d_M_readPlain_71 : decode prog_14_method_54_code 71 = .ok (.aload_n 0, 1) := by decide +kernel
theorem d_M_readPlain_72 : decode prog_14_method_54_code 72 = .ok (.iload_n 1, 1) := by decide +kernel
theorem d_M_readPlain_73 : decode prog_14_method_54_code 73 = .ok (.iconst 1, 1) := by decide +kernel
theorem d_M_readPlain_74 : decode prog_14_method_54_code 74 = .ok (.iadd, 1) := by decide +kernel
theorem d_M_readPlain_75 : decode prog_14_method_54_code 75 = .ok (.invokevirtual 230, 3) := by decide +kernel
theorem d_M_readPlain_78 : decode prog_14_method_54_code 78 = .ok (.aload_n 0, 1) := by decide +kernel
theorem d_M_readPlain_79 : decode prog_14_method_54_code 79 = .ok (.bipush 41, 2) := by decide +kernel
theorem d_M_readPlain_81 : decode prog_14_method_54_code 81 = .ok (.invokestatic 249, 3) := by decide +kernel
theorem d_M_readPlain_84 : decode prog_14_method_54_code 84 = .ok (.invokevirtual 227, 3) := by decide +kernel
theorem d_M_readPlain_87 : decode prog_14_method_54_code 87 = .ok (.goto 46, 3) := by decide +kernel
theorem d_M_readPlain_90 : decode prog_14_method_54_code 90 = .ok (.aload_n 0, 1) := by decide +kernel
theorem d_M_readPlain_91 : decode prog_14_method_54_code 91 = .ok (.iload_n 1, 1) := by decide +kernel
theorem d_M_readPlain_92 : decode prog_14_method_54_code 92 = .ok (.invokevirtual 223, 3) := by decide +kernel
theorem d_M_readPlain_95 : decode prog_14_method_54_code 95 = .ok (.aload_n 0, 1) := by decide +kernel
theorem d_M_readPlain_96 : decode prog_14_method_54_code 96 = .ok (.bipush 60, 2) := by decide +kernel
theorem d_M_readPlain_98 : decode prog_14_method_54_code 98 = .ok (.invokestatic 249, 3) := by decide +kernel
theorem d_M_readPlain_101 : decode prog_14_method_54_code 101 = .ok (.invokevirtual 210, 3) := by decide +kernel
theorem d_M_readPlain_104 : decode prog_14_method_54_code 104 = .ok (.ifCond .ne 24, 3) := by decide +kernel
theorem d_M_readPlain_107 : decode prog_14_method_54_code 107 = .ok (.aload_n 0, 1) := by decide +kernel
theorem d_M_readPlain_108 : decode prog_14_method_54_code 108 = .ok (.bipush 62, 2) := by decide +kernel
theorem d_M_readPlain_110 : decode prog_14_method_54_code 110 = .ok (.invokestatic 249, 3) := by decide +kernel
theorem d_M_readPlain_113 : decode prog_14_method_54_code 113 = .ok (.invokevirtual 210, 3) := by decide +kernel
theorem d_M_readPlain_116 : decode prog_14_method_54_code 116 = .ok (.ifCond .ne 12, 3) := by decide +kernel
theorem d_M_readPlain_119 : decode prog_14_method_54_code 119 = .ok (.aload_n 0, 1) := by decide +kernel
theorem d_M_readPlain_120 : decode prog_14_method_54_code 120 = .ok (.bipush 61, 2) := by decide +kernel
theorem d_M_readPlain_122 : decode prog_14_method_54_code 122 = .ok (.invokestatic 249, 3) := by decide +kernel
theorem d_M_readPlain_125 : decode prog_14_method_54_code 125 = .ok (.invokevirtual 227, 3) := by decide +kernel
theorem d_M_readPlain_128 : decode prog_14_method_54_code 128 = .ok (.aload_n 0, 1) := by decide +kernel
theorem d_M_readPlain_129 : decode prog_14_method_54_code 129 = .ok (.iload_n 1, 1) := by decide +kernel
theorem d_M_readPlain_130 : decode prog_14_method_54_code 130 = .ok (.invokevirtual 223, 3) := by decide +kernel
theorem d_M_readPlain_133 : decode prog_14_method_54_code 133 = .ok (.return_, 1) := by decide +kernel
def w_M_readPlain {d : Nat} (hd : 2 ≤ d) := (show SS ("DebtDoorsModel", prog_14_method_54_code, 4) (none) d 0 0 0 0 _ from (sS (p1 := 2) (sIn 2 (xE (rI d_M_readPlain_0 rfl)) d_M_readPlain_1 rfl (by decide)) (sS (p1 := 16) (sLp (ps := 2) (tt := 6) (pn := 16) (p1 := 0) (p2 := 0) (xC (rNot (rJ1 (tgt := 16) k_eq (rIn 2 d_M_readPlain_2 rfl) d_M_readPlain_3 (by decide)))) (sGo (pn := 2) (sIn 2 (xV lv_M_210 (xA (rAi (rAr rA0 (rAn 0 d_M_readPlain_6 rfl)) (rB d_M_readPlain_7 rfl))) (by decide) d_M_readPlain_9) d_M_readPlain_12 rfl (by decide)) d_M_readPlain_13 (by decide)) s0) (sS (p1 := 24) (sIf (pn := 24) (tt := 23) (xC (rNot (rJ1 (tgt := 24) k_ne (rV p_M_fine (Nat.le_trans (Nat.le_of_ble_eq_true rfl) hd) lv_M_203 (rAr rA0 (rAn 0 d_M_readPlain_16 rfl)) (by decide) d_M_readPlain_17) d_M_readPlain_20 (by decide)))) (sRv d_M_readPlain_23 rfl)) (sS (p1 := 34) (sIn 3 (xE (rIa (rFr fl_M_50 nk_12_13 (rAn 0 d_M_readPlain_24 rfl) d_M_readPlain_25) (rF 17 fl_M_207 nk_12_17 (rAn 0 d_M_readPlain_28 rfl) d_M_readPlain_29 rfl) d_M_readPlain_32)) d_M_readPlain_33 rfl (by decide)) (sS (p1 := 133) (sIe (pn := 133) (tt := 43) (ff := 90) (xC (rNot (rJ2 (tgt := 90) j_ne (rIn 3 d_M_readPlain_34 rfl) (rS p_M_sign (Nat.le_trans (Nat.le_of_ble_eq_true rfl) hd) ls_M_249 (rAi rA0 (rB d_M_readPlain_35 rfl)) (by decide) d_M_readPlain_37) d_M_readPlain_40 (by decide)))) (sS (p1 := 53) (sIf (pn := 53) (tt := 49) (xC (rNot (rJ2 (tgt := 53) j_ne (rIn 1 d_M_readPlain_43 rfl) (rB d_M_readPlain_44 rfl) d_M_readPlain_46 (by decide)))) (sV (xVv lv_M_213 (xA (rAr rA0 (rAn 0 d_M_readPlain_49 rfl))) (by decide) d_M_readPlain_50))) (sS (p1 := 61) (sIf (pn := 61) (tt := 60) (xC (rNot (rJ1 (tgt := 61) k_ne (rV p_M_fine (Nat.le_trans (Nat.le_of_ble_eq_true rfl) hd) lv_M_203 (rAr rA0 (rAn 0 d_M_readPlain_53 rfl)) (by decide) d_M_readPlain_54) d_M_readPlain_57 (by decide)))) (sRv d_M_readPlain_60 rfl)) (sS (p1 := 71) (sPo 17 o_add fl_M_207 fp_12_17 nk_12_17 (rAn 0 d_M_readPlain_61 rfl) d_M_readPlain_62 d_M_readPlain_63 (rI d_M_readPlain_66 rfl) d_M_readPlain_67 d_M_readPlain_68 rfl) (sS (p1 := 78) (sV (xVv lv_M_230 (xA (rAi (rAr rA0 (rAn 0 d_M_readPlain_71 rfl)) (r2 o_add (rIn 1 d_M_readPlain_72 rfl) (rI d_M_readPlain_73 rfl) d_M_readPlain_74))) (by decide) d_M_readPlain_75)) (sGo (pn := 133) (sV (xVv lv_M_227 (xA (rAi (rAr rA0 (rAn 0 d_M_readPlain_78 rfl)) (rS p_M_sign (Nat.le_trans (Nat.le_of_ble_eq_true rfl) hd) ls_M_249 (rAi rA0 (rB d_M_readPlain_79 rfl)) (by decide) d_M_readPlain_81))) (by decide) d_M_readPlain_84)) d_M_readPlain_87 (by decide)))))) (sS (p1 := 95) (sV (xVv lv_M_223 (xA (rAi (rAr rA0 (rAn 0 d_M_readPlain_90 rfl)) (rIn 1 d_M_readPlain_91 rfl))) (by decide) d_M_readPlain_92)) (sS (p1 := 128) (sIf (pn := 128) (tt := 119) (xAnd (mm := 107) (xNot (xJ1 (tgt := 128) k_ne (xV lv_M_210 (xA (rAi (rAr rA0 (rAn 0 d_M_readPlain_95 rfl)) (rS p_M_sign (Nat.le_trans (Nat.le_of_ble_eq_true rfl) hd) ls_M_249 (rAi rA0 (rB d_M_readPlain_96 rfl)) (by decide) d_M_readPlain_98))) (by decide) d_M_readPlain_101) d_M_readPlain_104 (by decide))) (xNot (xJ1 (tgt := 128) k_ne (xV lv_M_210 (xA (rAi (rAr rA0 (rAn 0 d_M_readPlain_107 rfl)) (rS p_M_sign (Nat.le_trans (Nat.le_of_ble_eq_true rfl) hd) ls_M_249 (rAi rA0 (rB d_M_readPlain_108 rfl)) (by decide) d_M_readPlain_110))) (by decide) d_M_readPlain_113) d_M_readPlain_116 (by decide)))) (sV (xVv lv_M_227 (xA (rAi (rAr rA0 (rAn 0 d_M_readPlain_119 rfl)) (rS p_M_sign (Nat.le_trans (Nat.le_of_ble_eq_true rfl) hd) ls_M_249 (rAi rA0 (rB d_M_readPlain_120 rfl)) (by decide) d_M_readPlain_122))) (by decide) d_M_readPlain_125))) (sV (xVv lv_M_223 (xA (rAi (rAr rA0 (rAn 0 d_M_readPlain_128 rfl)) (rIn 1 d_M_readPlain_129 rfl))) (by decide) d_M_readPlain_130))))) (sRv d_M_readPlain_133 rfl)))))))
theorem q_M_readBoth {d dp : Nat} (hd : 6 ≤ d) (hdp : dp + 1 ≤ d) {Q : zTk} {o : Bool} {pp : Pr} {b : Int} (hQ : okK Q) (hG : PG Q.1 Q.2.2.2 pp) (hp : MCT dp y_M_readPlain [vi b] Q o pp) : MCT d y_M_readBoth [vi b] Q o (pRow Q.1 oBoth true pp) := by
  refine ⟨fun μ t l w h hl => ?_, fun μ h => ?_⟩
  · refine zSp.ss [vr 355, vi b] rfl (w_M_readBoth (Nat.le_trans (by decide) hd)) rfl rfl ?_
    (try simp only [zit_e, Bool.and_eq_true, Bool.or_eq_true, Bool.not_eq_true', Bool.and_eq_false_iff, Bool.or_eq_false_iff, Bool.not_eq_false', zbe, zdt, zdf, zb2_p, zbp_0, zbp_1, zbp_inj, zbp_01, Bool.true_eq_false, Bool.false_eq_true, true_and, and_true, Decidable.not_not, Classical.not_not, implies_true, List.nil_append, List.cons_append, List.append_assoc, Option.some.injEq, Sum.inl.injEq, zSw_c, zSw_n]); (try simp only [zit_e, Bool.and_eq_true, Bool.or_eq_true, Bool.not_eq_true', Bool.and_eq_false_iff, Bool.or_eq_false_iff, Bool.not_eq_false', zbe, zdt, zdf, zb2_p, zbp_0, zbp_1, zbp_inj, zbp_01, Bool.true_eq_false, Bool.false_eq_true, true_and, and_true, Decidable.not_not, Classical.not_not, implies_true, List.nil_append, List.cons_append, List.append_assoc, Option.some.injEq, Sum.inl.injEq, zSw_c, zSw_n, zc_355, f_M_sign, g_M_sign]); (try simp only [zi_cs, zi_c0, zii_cs, zii_c0, zl_cs, zl_c0, zll_cs, zll_c0, zr_cs, zr_c0, zrr_cs, zrr_c0, zxs_cs, zxs_c0, zxx_cs, zxx_c0, zfree_c0, zfree_c1, zfree_cs, zfree_cz, zlong_i, zlong_r, zlong_x, zset_0, zset_s, true_and, and_true, Option.some.injEq, Sum.inl.injEq, Sum.inr.injEq, zb2_p, zbp_0, zbp_1, zbp_inj, zbp_01, Nat.zero_add, Nat.reduceAdd, implies_true, List.nil_append, List.cons_append, List.append_assoc, Int.not_lt, Int.not_le, Decidable.not_not, Int.zero_add, Int.reduceLE, Int.reduceLT, Int.reduceEq, Int.reduceNe, Int.reduceAdd, Int.reduceSub, Int.reduceMul, Int.reduceNeg, Int.reduceToNat, Nat.reduceMul, Nat.reduceLT, Nat.reduceEqDiff, and_self, ite_true, ite_false, zx1, zx2, zRecv, List.length_cons, List.length_nil, ne_eq, not_true_eq_false, not_false_eq_true, true_or, or_true, or_false, false_or, and_false, false_and, zf01, zf10, reduceCtorEq, zSw_c, zSw_n, zm_r, zit_T, zit_F, false_implies, true_implies, zc_355, f_M_sign, g_M_sign])
    refine zCw.use (hp.1 μ t l w h hl) hdp (fun r μ1 e => ?_)
    obtain ⟨rfl, e1, e2⟩ := e
    refine ⟨rfl, ?_⟩
    have hg := hG t l w hl h.2.2.2.2.2
    generalize hR : pRow Q.1 oBoth true pp t l w = R
    refine zLoop.mk (fun k ρ μ2 => ρ = [vr 355, vi b] ∧ ((∃ t1, R = (t1, none) ∧ μ2 355 19 = Q.2.2.1 t1 ∧ FM μ μ2 ∧ k = 0) ∨ ∃ (t1 l1 f : Nat) (m1 : Mn) (cc : List Int), MSt Q o t1 l1 μ2 ∧ l1 ≤ 50 ∧ FM μ μ2 ∧ Q.2.2.2 ≤ t1 + f ∧ R = pCat cc (pLoop Q.1 oBoth true pp f m1 t1 l1 (w + cc.length)) ∧ k = Q.2.2.2 + 1 - t1)) (match pp t l w with
      | (t1, none) => 0
      | (t1, some _) => Q.2.2.2 + 1 - t1) ⟨rfl, ?_⟩ ?_
    · rcases h1 : pp t l w with ⟨t1, _ | ⟨l1, m1, c1⟩⟩
      · left
        rw [pRow_n h1] at hR
        exact ⟨t1, hR.symm, (e1 _ h1).1, (e1 _ h1).2, rfl⟩
      · right
        have hg1 := hg.2 _ _ _ _ h1
        have hQ1 := hQ.1
        rw [pRow_s h1] at hR
        exact ⟨t1, l1, 400, m1, c1, (e2 _ _ _ _ h1).1, hg1.2.2.2.1, (e2 _ _ _ _ h1).2, by omega, hR.symm, rfl⟩
    clear hR e1 e2 hg
    rintro k ρ μ2 ⟨rfl, ⟨t1, hR, hb1, hF, rfl⟩ | ⟨t1, l1, f, m1, cc, hM, hl1, hF, hf, hR, rfl⟩⟩
    · have hnf := bad_n hQ hb1
      (try simp only [zit_e, Bool.and_eq_true, Bool.or_eq_true, Bool.not_eq_true', Bool.and_eq_false_iff, Bool.or_eq_false_iff, Bool.not_eq_false', zbe, zdt, zdf, zb2_p, zbp_0, zbp_1, zbp_inj, zbp_01, Bool.true_eq_false, Bool.false_eq_true, true_and, and_true, Decidable.not_not, Classical.not_not, implies_true, List.nil_append, List.cons_append, List.append_assoc, Option.some.injEq, Sum.inl.injEq, zSw_c, zSw_n]); (try simp only [zit_e, Bool.and_eq_true, Bool.or_eq_true, Bool.not_eq_true', Bool.and_eq_false_iff, Bool.or_eq_false_iff, Bool.not_eq_false', zbe, zdt, zdf, zb2_p, zbp_0, zbp_1, zbp_inj, zbp_01, Bool.true_eq_false, Bool.false_eq_true, true_and, and_true, Decidable.not_not, Classical.not_not, implies_true, List.nil_append, List.cons_append, List.append_assoc, Option.some.injEq, Sum.inl.injEq, zSw_c, zSw_n, zc_355, f_M_sign, g_M_sign]); (try simp only [zi_cs, zi_c0, zii_cs, zii_c0, zl_cs, zl_c0, zll_cs, zll_c0, zr_cs, zr_c0, zrr_cs, zrr_c0, zxs_cs, zxs_c0, zxx_cs, zxx_c0, zfree_c0, zfree_c1, zfree_cs, zfree_cz, zlong_i, zlong_r, zlong_x, zset_0, zset_s, true_and, and_true, Option.some.injEq, Sum.inl.injEq, Sum.inr.injEq, zb2_p, zbp_0, zbp_1, zbp_inj, zbp_01, Nat.zero_add, Nat.reduceAdd, implies_true, List.nil_append, List.cons_append, List.append_assoc, Int.not_lt, Int.not_le, Decidable.not_not, Int.zero_add, Int.reduceLE, Int.reduceLT, Int.reduceEq, Int.reduceNe, Int.reduceAdd, Int.reduceSub, Int.reduceMul, Int.reduceNeg, Int.reduceToNat, Nat.reduceMul, Nat.reduceLT, Nat.reduceEqDiff, and_self, ite_true, ite_false, zx1, zx2, zRecv, List.length_cons, List.length_nil, ne_eq, not_true_eq_false, not_false_eq_true, true_or, or_true, or_false, false_or, and_false, false_and, zf01, zf10, reduceCtorEq, zSw_c, zSw_n, zm_r, zit_T, zit_F, false_implies, true_implies, zc_355, f_M_sign, g_M_sign])
      refine t0_n (by omega) hnf ⟨_, rfl, ?_⟩
      rw [if_neg (by decide)]
      exact MP_n hR hb1 hF
    · have hgo : ∀ μ3, ¬ oBoth (Q.1 t1) = 0 → MSt Q o (t1 + 1) l1 μ3 → FM μ μ3 → zCw d y_M_readPlain [vr 355, vi b] μ3 (fun q μ2 => q = none ∧ ∃ m', m' < Q.2.2.2 + 1 - t1 ∧ ((∃ t1, R = (t1, none) ∧ μ2 355 19 = Q.2.2.1 t1 ∧ FM μ μ2 ∧ m' = 0) ∨ ∃ (t1 l1 f : Nat) (m1 : Mn) (cc : List Int), MSt Q o t1 l1 μ2 ∧ l1 ≤ 50 ∧ FM μ μ2 ∧ Q.2.2.2 ≤ t1 + f ∧ R = pCat cc (pLoop Q.1 oBoth true pp f m1 t1 l1 (w + cc.length)) ∧ m' = Q.2.2.2 + 1 - t1)) := by
        intro μ3 hop a1 a2
        have htn : t1 < Q.2.2.2 := zNlt (c := Q.1) hQ.2.1 (fun q => hop (by rw [q]; rfl))
        obtain ⟨g, rfl⟩ : ∃ g, f = g + 1 := ⟨f - 1, by omega⟩
        refine zCw.use (hp.1 μ3 (t1 + 1) l1 (w + cc.length  + 1) a1 hl1) hdp (fun r μ4 e => ?_)
        obtain ⟨rfl, e1, e2⟩ := e
        refine ⟨rfl, ?_⟩
        have hg := hG (t1 + 1) l1 (w + cc.length  + 1) hl1 htn
        rcases h1 : pp (t1 + 1) l1 (w + cc.length  + 1) with ⟨t2, _ | ⟨l2, m2, c2⟩⟩
        · rw [pLoop_n hop h1] at hR
          exact ⟨0, by omega, Or.inl ⟨t2, hR, (e1 _ h1).1, a2.tr (e1 _ h1).2, rfl⟩⟩
        · have hg1 := hg.2 _ _ _ _ h1
          rw [pLoop_s hop h1, pCat_cat] at hR
          refine ⟨_, ?_, Or.inr ⟨t2, l2, g, mOp (oBoth (Q.1 t1)) m1 m2, cc ++ ((oBoth (Q.1 t1) * 4096 + ((w + cc.length + c2.length + 1 : Nat) : Int)) :: c2), (e2 _ _ _ _ h1).1, hg1.2.2.2.1, a2.tr (e2 _ _ _ _ h1).2, by omega, ?_, rfl⟩⟩
          · omega
          · rw [hR]
            simp only [List.length_append, List.length_cons, List.length_nil, if_true]
            congr 2
            omega
      (try simp only [zit_e, Bool.and_eq_true, Bool.or_eq_true, Bool.not_eq_true', Bool.and_eq_false_iff, Bool.or_eq_false_iff, Bool.not_eq_false', zbe, zdt, zdf, zb2_p, zbp_0, zbp_1, zbp_inj, zbp_01, Bool.true_eq_false, Bool.false_eq_true, true_and, and_true, Decidable.not_not, Classical.not_not, implies_true, List.nil_append, List.cons_append, List.append_assoc, Option.some.injEq, Sum.inl.injEq, zSw_c, zSw_n]); (try simp only [zit_e, Bool.and_eq_true, Bool.or_eq_true, Bool.not_eq_true', Bool.and_eq_false_iff, Bool.or_eq_false_iff, Bool.not_eq_false', zbe, zdt, zdf, zb2_p, zbp_0, zbp_1, zbp_inj, zbp_01, Bool.true_eq_false, Bool.false_eq_true, true_and, and_true, Decidable.not_not, Classical.not_not, implies_true, List.nil_append, List.cons_append, List.append_assoc, Option.some.injEq, Sum.inl.injEq, zSw_c, zSw_n, zc_355, f_M_sign, g_M_sign]); (try simp only [zi_cs, zi_c0, zii_cs, zii_c0, zl_cs, zl_c0, zll_cs, zll_c0, zr_cs, zr_c0, zrr_cs, zrr_c0, zxs_cs, zxs_c0, zxx_cs, zxx_c0, zfree_c0, zfree_c1, zfree_cs, zfree_cz, zlong_i, zlong_r, zlong_x, zset_0, zset_s, true_and, and_true, Option.some.injEq, Sum.inl.injEq, Sum.inr.injEq, zb2_p, zbp_0, zbp_1, zbp_inj, zbp_01, Nat.zero_add, Nat.reduceAdd, implies_true, List.nil_append, List.cons_append, List.append_assoc, Int.not_lt, Int.not_le, Decidable.not_not, Int.zero_add, Int.reduceLE, Int.reduceLT, Int.reduceEq, Int.reduceNe, Int.reduceAdd, Int.reduceSub, Int.reduceMul, Int.reduceNeg, Int.reduceToNat, Nat.reduceMul, Nat.reduceLT, Nat.reduceEqDiff, and_self, ite_true, ite_false, zx1, zx2, zRecv, List.length_cons, List.length_nil, ne_eq, not_true_eq_false, not_false_eq_true, true_or, or_true, or_false, false_or, and_false, false_and, zf01, zf10, reduceCtorEq, zSw_c, zSw_n, zm_r, zit_T, zit_F, false_implies, true_implies, zc_355, f_M_sign, g_M_sign])
      refine t0_w (by omega) hQ hM (by decide) (fun c0 μ3 a1 a2 => ⟨_, rfl, by
        rw [if_pos (by decide)]
        exact hgo μ3 (by rw [c0]; decide) a1 (hF.tr a2)⟩) (fun c0 => ⟨_, rfl, ?_⟩)
      rw [if_neg (by decide)]
      have hop : oBoth (Q.1 t1) = 0 := by
        unfold oBoth
        rw [if_neg c0]
      rw [pLoop_0 hop] at hR
      exact MP_s hR hM hF
  · refine zSp.ss [vr 355, vi b] rfl (w_M_readBoth (Nat.le_trans (by decide) hd)) rfl rfl ?_
    (try simp only [zit_e, Bool.and_eq_true, Bool.or_eq_true, Bool.not_eq_true', Bool.and_eq_false_iff, Bool.or_eq_false_iff, Bool.not_eq_false', zbe, zdt, zdf, zb2_p, zbp_0, zbp_1, zbp_inj, zbp_01, Bool.true_eq_false, Bool.false_eq_true, true_and, and_true, Decidable.not_not, Classical.not_not, implies_true, List.nil_append, List.cons_append, List.append_assoc, Option.some.injEq, Sum.inl.injEq, zSw_c, zSw_n]); (try simp only [zit_e, Bool.and_eq_true, Bool.or_eq_true, Bool.not_eq_true', Bool.and_eq_false_iff, Bool.or_eq_false_iff, Bool.not_eq_false', zbe, zdt, zdf, zb2_p, zbp_0, zbp_1, zbp_inj, zbp_01, Bool.true_eq_false, Bool.false_eq_true, true_and, and_true, Decidable.not_not, Classical.not_not, implies_true, List.nil_append, List.cons_append, List.append_assoc, Option.some.injEq, Sum.inl.injEq, zSw_c, zSw_n, zc_355, f_M_sign, g_M_sign]); (try simp only [zi_cs, zi_c0, zii_cs, zii_c0, zl_cs, zl_c0, zll_cs, zll_c0, zr_cs, zr_c0, zrr_cs, zrr_c0, zxs_cs, zxs_c0, zxx_cs, zxx_c0, zfree_c0, zfree_c1, zfree_cs, zfree_cz, zlong_i, zlong_r, zlong_x, zset_0, zset_s, true_and, and_true, Option.some.injEq, Sum.inl.injEq, Sum.inr.injEq, zb2_p, zbp_0, zbp_1, zbp_inj, zbp_01, Nat.zero_add, Nat.reduceAdd, implies_true, List.nil_append, List.cons_append, List.append_assoc, Int.not_lt, Int.not_le, Decidable.not_not, Int.zero_add, Int.reduceLE, Int.reduceLT, Int.reduceEq, Int.reduceNe, Int.reduceAdd, Int.reduceSub, Int.reduceMul, Int.reduceNeg, Int.reduceToNat, Nat.reduceMul, Nat.reduceLT, Nat.reduceEqDiff, and_self, ite_true, ite_false, zx1, zx2, zRecv, List.length_cons, List.length_nil, ne_eq, not_true_eq_false, not_false_eq_true, true_or, or_true, or_false, false_or, and_false, false_and, zf01, zf10, reduceCtorEq, zSw_c, zSw_n, zm_r, zit_T, zit_F, false_implies, true_implies, zc_355, f_M_sign, g_M_sign])
    refine zCw.use (hp.2 μ h) hdp (fun r μ1 e => ?_)
    obtain ⟨rfl, rfl⟩ := e
    refine ⟨rfl, ?_⟩
    refine zLoop.mk (fun k ρ μ2 => ρ = [vr 355, vi b] ∧ μ2 = μ1) 0 ⟨rfl, rfl⟩ ?_
    rintro k ρ μ2 ⟨rfl, rfl⟩
    (try simp only [zit_e, Bool.and_eq_true, Bool.or_eq_true, Bool.not_eq_true', Bool.and_eq_false_iff, Bool.or_eq_false_iff, Bool.not_eq_false', zbe, zdt, zdf, zb2_p, zbp_0, zbp_1, zbp_inj, zbp_01, Bool.true_eq_false, Bool.false_eq_true, true_and, and_true, Decidable.not_not, Classical.not_not, implies_true, List.nil_append, List.cons_append, List.append_assoc, Option.some.injEq, Sum.inl.injEq, zSw_c, zSw_n]); (try simp only [zit_e, Bool.and_eq_true, Bool.or_eq_true, Bool.not_eq_true', Bool.and_eq_false_iff, Bool.or_eq_false_iff, Bool.not_eq_false', zbe, zdt, zdf, zb2_p, zbp_0, zbp_1, zbp_inj, zbp_01, Bool.true_eq_false, Bool.false_eq_true, true_and, and_true, Decidable.not_not, Classical.not_not, implies_true, List.nil_append, List.cons_append, List.append_assoc, Option.some.injEq, Sum.inl.injEq, zSw_c, zSw_n, zc_355, f_M_sign, g_M_sign]); (try simp only [zi_cs, zi_c0, zii_cs, zii_c0, zl_cs, zl_c0, zll_cs, zll_c0, zr_cs, zr_c0, zrr_cs, zrr_c0, zxs_cs, zxs_c0, zxx_cs, zxx_c0, zfree_c0, zfree_c1, zfree_cs, zfree_cz, zlong_i, zlong_r, zlong_x, zset_0, zset_s, true_and, and_true, Option.some.injEq, Sum.inl.injEq, Sum.inr.injEq, zb2_p, zbp_0, zbp_1, zbp_inj, zbp_01, Nat.zero_add, Nat.reduceAdd, implies_true, List.nil_append, List.cons_append, List.append_assoc, Int.not_lt, Int.not_le, Decidable.not_not, Int.zero_add, Int.reduceLE, Int.reduceLT, Int.reduceEq, Int.reduceNe, Int.reduceAdd, Int.reduceSub, Int.reduceMul, Int.reduceNeg, Int.reduceToNat, Nat.reduceMul, Nat.reduceLT, Nat.reduceEqDiff, and_self, ite_true, ite_false, zx1, zx2, zRecv, List.length_cons, List.length_nil, ne_eq, not_true_eq_false, not_false_eq_true, true_or, or_true, or_false, false_or, and_false, false_and, zf01, zf10, reduceCtorEq, zSw_c, zSw_n, zm_r, zit_T, zit_F, false_implies, true_implies, zc_355, f_M_sign, g_M_sign])
    refine t0_n (by omega) h ⟨_, rfl, ?_⟩
    rw [if_neg (by decide)]
    done
theorem q_M_readTest {d dp : Nat} (hd : 6 ≤ d) (hdp : dp + 1 ≤ d) {Q : zTk} {o : Bool} {pp : Pr} {b : Int} (hQ : okK Q) (hG : PG Q.1 Q.2.2.2 pp) (hp : MCT dp y_M_readBoth [vi b] Q o pp) : MCT d y_M_readTest [vi b] Q o (pRow Q.1 oTest true pp) := by
  refine ⟨fun μ t l w h hl => ?_, fun μ h => ?_⟩
  · refine zSp.ss [vr 355, vi b] rfl (w_M_readTest (Nat.le_trans (by decide) hd)) rfl rfl ?_
    (try simp only [zit_e, Bool.and_eq_true, Bool.or_eq_true, Bool.not_eq_true', Bool.and_eq_false_iff, Bool.or_eq_false_iff, Bool.not_eq_false', zbe, zdt, zdf, zb2_p, zbp_0, zbp_1, zbp_inj, zbp_01, Bool.true_eq_false, Bool.false_eq_true, true_and, and_true, Decidable.not_not, Classical.not_not, implies_true, List.nil_append, List.cons_append, List.append_assoc, Option.some.injEq, Sum.inl.injEq, zSw_c, zSw_n]); (try simp only [zit_e, Bool.and_eq_true, Bool.or_eq_true, Bool.not_eq_true', Bool.and_eq_false_iff, Bool.or_eq_false_iff, Bool.not_eq_false', zbe, zdt, zdf, zb2_p, zbp_0, zbp_1, zbp_inj, zbp_01, Bool.true_eq_false, Bool.false_eq_true, true_and, and_true, Decidable.not_not, Classical.not_not, implies_true, List.nil_append, List.cons_append, List.append_assoc, Option.some.injEq, Sum.inl.injEq, zSw_c, zSw_n, zc_355, f_M_sign, g_M_sign]); (try simp only [zi_cs, zi_c0, zii_cs, zii_c0, zl_cs, zl_c0, zll_cs, zll_c0, zr_cs, zr_c0, zrr_cs, zrr_c0, zxs_cs, zxs_c0, zxx_cs, zxx_c0, zfree_c0, zfree_c1, zfree_cs, zfree_cz, zlong_i, zlong_r, zlong_x, zset_0, zset_s, true_and, and_true, Option.some.injEq, Sum.inl.injEq, Sum.inr.injEq, zb2_p, zbp_0, zbp_1, zbp_inj, zbp_01, Nat.zero_add, Nat.reduceAdd, implies_true, List.nil_append, List.cons_append, List.append_assoc, Int.not_lt, Int.not_le, Decidable.not_not, Int.zero_add, Int.reduceLE, Int.reduceLT, Int.reduceEq, Int.reduceNe, Int.reduceAdd, Int.reduceSub, Int.reduceMul, Int.reduceNeg, Int.reduceToNat, Nat.reduceMul, Nat.reduceLT, Nat.reduceEqDiff, and_self, ite_true, ite_false, zx1, zx2, zRecv, List.length_cons, List.length_nil, ne_eq, not_true_eq_false, not_false_eq_true, true_or, or_true, or_false, false_or, and_false, false_and, zf01, zf10, reduceCtorEq, zSw_c, zSw_n, zm_r, zit_T, zit_F, false_implies, true_implies, zc_355, f_M_sign, g_M_sign])
    refine zCw.use (hp.1 μ t l w h hl) hdp (fun r μ1 e => ?_)
    obtain ⟨rfl, e1, e2⟩ := e
    refine ⟨rfl, ?_⟩
    have hg := hG t l w hl h.2.2.2.2.2
    generalize hR : pRow Q.1 oTest true pp t l w = R
    refine zLoop.mk (fun k ρ μ2 => ρ = [vr 355, vi b] ∧ ((∃ t1, R = (t1, none) ∧ μ2 355 19 = Q.2.2.1 t1 ∧ FM μ μ2 ∧ k = 0) ∨ ∃ (t1 l1 f : Nat) (m1 : Mn) (cc : List Int), MSt Q o t1 l1 μ2 ∧ l1 ≤ 50 ∧ FM μ μ2 ∧ Q.2.2.2 ≤ t1 + f ∧ R = pCat cc (pLoop Q.1 oTest true pp f m1 t1 l1 (w + cc.length)) ∧ k = Q.2.2.2 + 1 - t1)) (match pp t l w with
      | (t1, none) => 0
      | (t1, some _) => Q.2.2.2 + 1 - t1) ⟨rfl, ?_⟩ ?_
    · rcases h1 : pp t l w with ⟨t1, _ | ⟨l1, m1, c1⟩⟩
      · left
        rw [pRow_n h1] at hR
        exact ⟨t1, hR.symm, (e1 _ h1).1, (e1 _ h1).2, rfl⟩
      · right
        have hg1 := hg.2 _ _ _ _ h1
        have hQ1 := hQ.1
        rw [pRow_s h1] at hR
        exact ⟨t1, l1, 400, m1, c1, (e2 _ _ _ _ h1).1, hg1.2.2.2.1, (e2 _ _ _ _ h1).2, by omega, hR.symm, rfl⟩
    clear hR e1 e2 hg
    rintro k ρ μ2 ⟨rfl, ⟨t1, hR, hb1, hF, rfl⟩ | ⟨t1, l1, f, m1, cc, hM, hl1, hF, hf, hR, rfl⟩⟩
    · have hnf := bad_n hQ hb1
      (try simp only [zit_e, Bool.and_eq_true, Bool.or_eq_true, Bool.not_eq_true', Bool.and_eq_false_iff, Bool.or_eq_false_iff, Bool.not_eq_false', zbe, zdt, zdf, zb2_p, zbp_0, zbp_1, zbp_inj, zbp_01, Bool.true_eq_false, Bool.false_eq_true, true_and, and_true, Decidable.not_not, Classical.not_not, implies_true, List.nil_append, List.cons_append, List.append_assoc, Option.some.injEq, Sum.inl.injEq, zSw_c, zSw_n]); (try simp only [zit_e, Bool.and_eq_true, Bool.or_eq_true, Bool.not_eq_true', Bool.and_eq_false_iff, Bool.or_eq_false_iff, Bool.not_eq_false', zbe, zdt, zdf, zb2_p, zbp_0, zbp_1, zbp_inj, zbp_01, Bool.true_eq_false, Bool.false_eq_true, true_and, and_true, Decidable.not_not, Classical.not_not, implies_true, List.nil_append, List.cons_append, List.append_assoc, Option.some.injEq, Sum.inl.injEq, zSw_c, zSw_n, zc_355, f_M_sign, g_M_sign]); (try simp only [zi_cs, zi_c0, zii_cs, zii_c0, zl_cs, zl_c0, zll_cs, zll_c0, zr_cs, zr_c0, zrr_cs, zrr_c0, zxs_cs, zxs_c0, zxx_cs, zxx_c0, zfree_c0, zfree_c1, zfree_cs, zfree_cz, zlong_i, zlong_r, zlong_x, zset_0, zset_s, true_and, and_true, Option.some.injEq, Sum.inl.injEq, Sum.inr.injEq, zb2_p, zbp_0, zbp_1, zbp_inj, zbp_01, Nat.zero_add, Nat.reduceAdd, implies_true, List.nil_append, List.cons_append, List.append_assoc, Int.not_lt, Int.not_le, Decidable.not_not, Int.zero_add, Int.reduceLE, Int.reduceLT, Int.reduceEq, Int.reduceNe, Int.reduceAdd, Int.reduceSub, Int.reduceMul, Int.reduceNeg, Int.reduceToNat, Nat.reduceMul, Nat.reduceLT, Nat.reduceEqDiff, and_self, ite_true, ite_false, zx1, zx2, zRecv, List.length_cons, List.length_nil, ne_eq, not_true_eq_false, not_false_eq_true, true_or, or_true, or_false, false_or, and_false, false_and, zf01, zf10, reduceCtorEq, zSw_c, zSw_n, zm_r, zit_T, zit_F, false_implies, true_implies, zc_355, f_M_sign, g_M_sign])
      refine t0_n (by omega) hnf ⟨_, rfl, ?_⟩
      rw [if_neg (by decide)]
      exact MP_n hR hb1 hF
    · have hgo : ∀ μ3, ¬ oTest (Q.1 t1) = 0 → MSt Q o (t1 + 1) l1 μ3 → FM μ μ3 → zCw d y_M_readBoth [vr 355, vi b] μ3 (fun q μ2 => q = none ∧ ∃ m', m' < Q.2.2.2 + 1 - t1 ∧ ((∃ t1, R = (t1, none) ∧ μ2 355 19 = Q.2.2.1 t1 ∧ FM μ μ2 ∧ m' = 0) ∨ ∃ (t1 l1 f : Nat) (m1 : Mn) (cc : List Int), MSt Q o t1 l1 μ2 ∧ l1 ≤ 50 ∧ FM μ μ2 ∧ Q.2.2.2 ≤ t1 + f ∧ R = pCat cc (pLoop Q.1 oTest true pp f m1 t1 l1 (w + cc.length)) ∧ m' = Q.2.2.2 + 1 - t1)) := by
        intro μ3 hop a1 a2
        have htn : t1 < Q.2.2.2 := zNlt (c := Q.1) hQ.2.1 (fun q => hop (by rw [q]; rfl))
        obtain ⟨g, rfl⟩ : ∃ g, f = g + 1 := ⟨f - 1, by omega⟩
        refine zCw.use (hp.1 μ3 (t1 + 1) l1 (w + cc.length  + 1) a1 hl1) hdp (fun r μ4 e => ?_)
        obtain ⟨rfl, e1, e2⟩ := e
        refine ⟨rfl, ?_⟩
        have hg := hG (t1 + 1) l1 (w + cc.length  + 1) hl1 htn
        rcases h1 : pp (t1 + 1) l1 (w + cc.length  + 1) with ⟨t2, _ | ⟨l2, m2, c2⟩⟩
        · rw [pLoop_n hop h1] at hR
          exact ⟨0, by omega, Or.inl ⟨t2, hR, (e1 _ h1).1, a2.tr (e1 _ h1).2, rfl⟩⟩
        · have hg1 := hg.2 _ _ _ _ h1
          rw [pLoop_s hop h1, pCat_cat] at hR
          refine ⟨_, ?_, Or.inr ⟨t2, l2, g, mOp (oTest (Q.1 t1)) m1 m2, cc ++ ((oTest (Q.1 t1) * 4096 + ((w + cc.length + c2.length + 1 : Nat) : Int)) :: c2), (e2 _ _ _ _ h1).1, hg1.2.2.2.1, a2.tr (e2 _ _ _ _ h1).2, by omega, ?_, rfl⟩⟩
          · omega
          · rw [hR]
            simp only [List.length_append, List.length_cons, List.length_nil, if_true]
            congr 2
            omega
      (try simp only [zit_e, Bool.and_eq_true, Bool.or_eq_true, Bool.not_eq_true', Bool.and_eq_false_iff, Bool.or_eq_false_iff, Bool.not_eq_false', zbe, zdt, zdf, zb2_p, zbp_0, zbp_1, zbp_inj, zbp_01, Bool.true_eq_false, Bool.false_eq_true, true_and, and_true, Decidable.not_not, Classical.not_not, implies_true, List.nil_append, List.cons_append, List.append_assoc, Option.some.injEq, Sum.inl.injEq, zSw_c, zSw_n]); (try simp only [zit_e, Bool.and_eq_true, Bool.or_eq_true, Bool.not_eq_true', Bool.and_eq_false_iff, Bool.or_eq_false_iff, Bool.not_eq_false', zbe, zdt, zdf, zb2_p, zbp_0, zbp_1, zbp_inj, zbp_01, Bool.true_eq_false, Bool.false_eq_true, true_and, and_true, Decidable.not_not, Classical.not_not, implies_true, List.nil_append, List.cons_append, List.append_assoc, Option.some.injEq, Sum.inl.injEq, zSw_c, zSw_n, zc_355, f_M_sign, g_M_sign]); (try simp only [zi_cs, zi_c0, zii_cs, zii_c0, zl_cs, zl_c0, zll_cs, zll_c0, zr_cs, zr_c0, zrr_cs, zrr_c0, zxs_cs, zxs_c0, zxx_cs, zxx_c0, zfree_c0, zfree_c1, zfree_cs, zfree_cz, zlong_i, zlong_r, zlong_x, zset_0, zset_s, true_and, and_true, Option.some.injEq, Sum.inl.injEq, Sum.inr.injEq, zb2_p, zbp_0, zbp_1, zbp_inj, zbp_01, Nat.zero_add, Nat.reduceAdd, implies_true, List.nil_append, List.cons_append, List.append_assoc, Int.not_lt, Int.not_le, Decidable.not_not, Int.zero_add, Int.reduceLE, Int.reduceLT, Int.reduceEq, Int.reduceNe, Int.reduceAdd, Int.reduceSub, Int.reduceMul, Int.reduceNeg, Int.reduceToNat, Nat.reduceMul, Nat.reduceLT, Nat.reduceEqDiff, and_self, ite_true, ite_false, zx1, zx2, zRecv, List.length_cons, List.length_nil, ne_eq, not_true_eq_false, not_false_eq_true, true_or, or_true, or_false, false_or, and_false, false_and, zf01, zf10, reduceCtorEq, zSw_c, zSw_n, zm_r, zit_T, zit_F, false_implies, true_implies, zc_355, f_M_sign, g_M_sign])
      refine t0_w (by omega) hQ hM (by decide) (fun c0 μ3 a1 a2 => ⟨_, rfl, by
        rw [if_pos (by decide)]
        exact hgo μ3 (by rw [c0]; decide) a1 (hF.tr a2)⟩) (fun c0 => ⟨_, rfl, ?_⟩)
      rw [if_neg (by decide)]
      have hop : oTest (Q.1 t1) = 0 := by
        unfold oTest
        rw [if_neg c0]
      rw [pLoop_0 hop] at hR
      exact MP_s hR hM hF
  · refine zSp.ss [vr 355, vi b] rfl (w_M_readTest (Nat.le_trans (by decide) hd)) rfl rfl ?_
    (try simp only [zit_e, Bool.and_eq_true, Bool.or_eq_true, Bool.not_eq_true', Bool.and_eq_false_iff, Bool.or_eq_false_iff, Bool.not_eq_false', zbe, zdt, zdf, zb2_p, zbp_0, zbp_1, zbp_inj, zbp_01, Bool.true_eq_false, Bool.false_eq_true, true_and, and_true, Decidable.not_not, Classical.not_not, implies_true, List.nil_append, List.cons_append, List.append_assoc, Option.some.injEq, Sum.inl.injEq, zSw_c, zSw_n]); (try simp only [zit_e, Bool.and_eq_true, Bool.or_eq_true, Bool.not_eq_true', Bool.and_eq_false_iff, Bool.or_eq_false_iff, Bool.not_eq_false', zbe, zdt, zdf, zb2_p, zbp_0, zbp_1, zbp_inj, zbp_01, Bool.true_eq_false, Bool.false_eq_true, true_and, and_true, Decidable.not_not, Classical.not_not, implies_true, List.nil_append, List.cons_append, List.append_assoc, Option.some.injEq, Sum.inl.injEq, zSw_c, zSw_n, zc_355, f_M_sign, g_M_sign]); (try simp only [zi_cs, zi_c0, zii_cs, zii_c0, zl_cs, zl_c0, zll_cs, zll_c0, zr_cs, zr_c0, zrr_cs, zrr_c0, zxs_cs, zxs_c0, zxx_cs, zxx_c0, zfree_c0, zfree_c1, zfree_cs, zfree_cz, zlong_i, zlong_r, zlong_x, zset_0, zset_s, true_and, and_true, Option.some.injEq, Sum.inl.injEq, Sum.inr.injEq, zb2_p, zbp_0, zbp_1, zbp_inj, zbp_01, Nat.zero_add, Nat.reduceAdd, implies_true, List.nil_append, List.cons_append, List.append_assoc, Int.not_lt, Int.not_le, Decidable.not_not, Int.zero_add, Int.reduceLE, Int.reduceLT, Int.reduceEq, Int.reduceNe, Int.reduceAdd, Int.reduceSub, Int.reduceMul, Int.reduceNeg, Int.reduceToNat, Nat.reduceMul, Nat.reduceLT, Nat.reduceEqDiff, and_self, ite_true, ite_false, zx1, zx2, zRecv, List.length_cons, List.length_nil, ne_eq, not_true_eq_false, not_false_eq_true, true_or, or_true, or_false, false_or, and_false, false_and, zf01, zf10, reduceCtorEq, zSw_c, zSw_n, zm_r, zit_T, zit_F, false_implies, true_implies, zc_355, f_M_sign, g_M_sign])
    refine zCw.use (hp.2 μ h) hdp (fun r μ1 e => ?_)
    obtain ⟨rfl, rfl⟩ := e
    refine ⟨rfl, ?_⟩
    refine zLoop.mk (fun k ρ μ2 => ρ = [vr 355, vi b] ∧ μ2 = μ1) 0 ⟨rfl, rfl⟩ ?_
    rintro k ρ μ2 ⟨rfl, rfl⟩
    (try simp only [zit_e, Bool.and_eq_true, Bool.or_eq_true, Bool.not_eq_true', Bool.and_eq_false_iff, Bool.or_eq_false_iff, Bool.not_eq_false', zbe, zdt, zdf, zb2_p, zbp_0, zbp_1, zbp_inj, zbp_01, Bool.true_eq_false, Bool.false_eq_true, true_and, and_true, Decidable.not_not, Classical.not_not, implies_true, List.nil_append, List.cons_append, List.append_assoc, Option.some.injEq, Sum.inl.injEq, zSw_c, zSw_n]); (try simp only [zit_e, Bool.and_eq_true, Bool.or_eq_true, Bool.not_eq_true', Bool.and_eq_false_iff, Bool.or_eq_false_iff, Bool.not_eq_false', zbe, zdt, zdf, zb2_p, zbp_0, zbp_1, zbp_inj, zbp_01, Bool.true_eq_false, Bool.false_eq_true, true_and, and_true, Decidable.not_not, Classical.not_not, implies_true, List.nil_append, List.cons_append, List.append_assoc, Option.some.injEq, Sum.inl.injEq, zSw_c, zSw_n, zc_355, f_M_sign, g_M_sign]); (try simp only [zi_cs, zi_c0, zii_cs, zii_c0, zl_cs, zl_c0, zll_cs, zll_c0, zr_cs, zr_c0, zrr_cs, zrr_c0, zxs_cs, zxs_c0, zxx_cs, zxx_c0, zfree_c0, zfree_c1, zfree_cs, zfree_cz, zlong_i, zlong_r, zlong_x, zset_0, zset_s, true_and, and_true, Option.some.injEq, Sum.inl.injEq, Sum.inr.injEq, zb2_p, zbp_0, zbp_1, zbp_inj, zbp_01, Nat.zero_add, Nat.reduceAdd, implies_true, List.nil_append, List.cons_append, List.append_assoc, Int.not_lt, Int.not_le, Decidable.not_not, Int.zero_add, Int.reduceLE, Int.reduceLT, Int.reduceEq, Int.reduceNe, Int.reduceAdd, Int.reduceSub, Int.reduceMul, Int.reduceNeg, Int.reduceToNat, Nat.reduceMul, Nat.reduceLT, Nat.reduceEqDiff, and_self, ite_true, ite_false, zx1, zx2, zRecv, List.length_cons, List.length_nil, ne_eq, not_true_eq_false, not_false_eq_true, true_or, or_true, or_false, false_or, and_false, false_and, zf01, zf10, reduceCtorEq, zSw_c, zSw_n, zm_r, zit_T, zit_F, false_implies, true_implies, zc_355, f_M_sign, g_M_sign])
    refine t0_n (by omega) h ⟨_, rfl, ?_⟩
    rw [if_neg (by decide)]
    done

