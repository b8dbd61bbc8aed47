/-! the reader's tests: what stands between "or" -/
set_option maxRecDepth 20000 in
theorem q_Re_test {d dp : Nat} (hd : 12 ≤ d) (hdp : dp + 1 ≤ d) {B : Int → Int} {n : Nat} {o : Bool} {pp : Pr} {b : Int} (hB : okB B n) (hG : PG (cT B n) n pp) (hp : CT dp y_Re_both [vi b] B n o pp) : CT d y_Re_test [vi b] B n o (pRow (cT B n) oTest true pp) := by
  intro μ t l w h hl ht hw
  have hB1 := hB.1
  refine zSp.ss [vr 321, vi b, vx 0, vx 0] rfl (w_Re_test (Nat.le_trans (by decide) hd)) rfl rfl ?_
  (try simp only [zit_e, Bool.and_eq_true, Bool.or_eq_true, Bool.not_eq_true', Bool.and_eq_false_iff, Bool.or_eq_false_iff, Bool.not_eq_false', zbe, zdt, zdf, zb2_p, zbp_0, zbp_1, zbp_inj, zbp_01, Bool.true_eq_false, Bool.false_eq_true, true_and, and_true, Decidable.not_not, Classical.not_not, implies_true, List.nil_append, List.cons_append, List.append_assoc, Option.some.injEq, Sum.inl.injEq, zSw_c, zSw_n]); (try simp only [zit_e, Bool.and_eq_true, Bool.or_eq_true, Bool.not_eq_true', Bool.and_eq_false_iff, Bool.or_eq_false_iff, Bool.not_eq_false', zbe, zdt, zdf, zb2_p, zbp_0, zbp_1, zbp_inj, zbp_01, Bool.true_eq_false, Bool.false_eq_true, true_and, and_true, Decidable.not_not, Classical.not_not, implies_true, List.nil_append, List.cons_append, List.append_assoc, Option.some.injEq, Sum.inl.injEq, zSw_c, zSw_n, zc_321, f_Re_isWord, g_Re_isWord]); (try simp only [zi_cs, zi_c0, zii_cs, zii_c0, zl_cs, zl_c0, zll_cs, zll_c0, zr_cs, zr_c0, zrr_cs, zrr_c0, zxs_cs, zxs_c0, zxx_cs, zxx_c0, zfree_c0, zfree_c1, zfree_cs, zfree_cz, zlong_i, zlong_r, zlong_x, zset_0, zset_s, true_and, and_true, Option.some.injEq, Sum.inl.injEq, Sum.inr.injEq, zb2_p, zbp_0, zbp_1, zbp_inj, zbp_01, Nat.zero_add, Nat.reduceAdd, implies_true, List.nil_append, List.cons_append, List.append_assoc, Int.not_lt, Int.not_le, Decidable.not_not, Int.zero_add, Int.reduceLE, Int.reduceLT, Int.reduceEq, Int.reduceNe, Int.reduceAdd, Int.reduceSub, Int.reduceMul, Int.reduceNeg, Int.reduceToNat, Nat.reduceMul, Nat.reduceLT, Nat.reduceEqDiff, and_self, ite_true, ite_false, zx1, zx2, zRecv, List.length_cons, List.length_nil, ne_eq, not_true_eq_false, not_false_eq_true, true_or, or_true, or_false, false_or, and_false, false_and, zf01, zf10, reduceCtorEq, zSw_c, zSw_n, zm_r, zit_T, zit_F, false_implies, true_implies, zc_321, f_Re_isWord, g_Re_isWord])
  refine zCw.use (hp μ t l w h hl ht hw) hdp (fun r μ1 e => ?_)
  have hg := hG t l w hl ht
  rcases h1 : pp t l w with ⟨t1, _ | ⟨l1, m1, c1⟩⟩
  · obtain ⟨rfl, e1, e2⟩ := e.1 _ h1
    exact ⟨0, rfl, by rw [if_pos rfl, pRow_n h1]; exact RP_n rfl e1 e2⟩
  obtain ⟨rfl, e1, e2, e3, e4⟩ := e.2 _ _ _ _ h1
  have hg1 := hg.2 _ _ _ _ h1
  refine ⟨1, rfl, ?_⟩
  rw [if_neg (by decide)]
  generalize hR : pRow (cT B n) oTest true pp t l w = R
  rw [pRow_s h1] at hR
  refine zLoop.up 400 (fun j ρ μ2 => ∃ (x3 : zV) (t1 l1 : Nat) (m1 : Mn) (cc : List Int), ρ = [vr 321, vi b, vi j, x3] ∧ PSt B n o t1 l1 (w + cc.length) μ2 ∧ Seg (μ2 323) w cc ∧ (∀ i : Int, i < w → μ2 323 i = μ 323 i) ∧ FR μ μ2 ∧ (l1 ≤ 50 ∧ t1 ≤ n ∧ w + cc.length + 1 ≤ 85 + 2 * l1 + NT (cT B n) t1) ∧ R = pCat cc (pLoop (cT B n) oTest true pp (400 - j) m1 t1 l1 (w + cc.length))) ⟨vx 0, t1, l1, m1, c1, rfl, e1, e2, e3, e4, by omega, hR.symm⟩ ?_
  clear hR e1 e2 e3 e4 hg1 h1 e hg
  rintro j ρ μ2 hj ⟨x3, t1, l1, m1, cc, rfl, hP, hS, hlo, hF, hbd, hR⟩
  have hwd := RD_word hB hP.1 (show 2 ≤ 8 ∧ 8 < 13 by decide)
  have hk9 : kwF 8 (cT B n t1) = if cT B n t1 = 6 then 0 else -1 := rfl
  have hpp := RD_p hP.1
  have hnum := RD_num hB hP.1
  (try simp only [zit_e, Bool.and_eq_true, Bool.or_eq_true, Bool.not_eq_true', Bool.and_eq_false_iff, Bool.or_eq_false_iff, Bool.not_eq_false', zbe, zdt, zdf, zb2_p, zbp_0, zbp_1, zbp_inj, zbp_01, Bool.true_eq_false, Bool.false_eq_true, true_and, and_true, Decidable.not_not, Classical.not_not, implies_true, List.nil_append, List.cons_append, List.append_assoc, Option.some.injEq, Sum.inl.injEq, zSw_c, zSw_n]); (try simp only [zit_e, Bool.and_eq_true, Bool.or_eq_true, Bool.not_eq_true', Bool.and_eq_false_iff, Bool.or_eq_false_iff, Bool.not_eq_false', zbe, zdt, zdf, zb2_p, zbp_0, zbp_1, zbp_inj, zbp_01, Bool.true_eq_false, Bool.false_eq_true, true_and, and_true, Decidable.not_not, Classical.not_not, implies_true, List.nil_append, List.cons_append, List.append_assoc, Option.some.injEq, Sum.inl.injEq, zSw_c, zSw_n, zc_321, f_Re_isWord, g_Re_isWord]); (try simp only [zi_cs, zi_c0, zii_cs, zii_c0, zl_cs, zl_c0, zll_cs, zll_c0, zr_cs, zr_c0, zrr_cs, zrr_c0, zxs_cs, zxs_c0, zxx_cs, zxx_c0, zfree_c0, zfree_c1, zfree_cs, zfree_cz, zlong_i, zlong_r, zlong_x, zset_0, zset_s, true_and, and_true, Option.some.injEq, Sum.inl.injEq, Sum.inr.injEq, zb2_p, zbp_0, zbp_1, zbp_inj, zbp_01, Nat.zero_add, Nat.reduceAdd, implies_true, List.nil_append, List.cons_append, List.append_assoc, Int.not_lt, Int.not_le, Decidable.not_not, Int.zero_add, Int.reduceLE, Int.reduceLT, Int.reduceEq, Int.reduceNe, Int.reduceAdd, Int.reduceSub, Int.reduceMul, Int.reduceNeg, Int.reduceToNat, Nat.reduceMul, Nat.reduceLT, Nat.reduceEqDiff, and_self, ite_true, ite_false, zx1, zx2, zRecv, List.length_cons, List.length_nil, ne_eq, not_true_eq_false, not_false_eq_true, true_or, or_true, or_false, false_or, and_false, false_and, zf01, zf10, reduceCtorEq, zSw_c, zSw_n, zm_r, zit_T, zit_F, false_implies, true_implies, zc_321, f_Re_isWord, g_Re_isWord])
  rw [hwd, hk9]
  refine ⟨fun _ => ⟨by decide, fun q => by omega⟩, ?_⟩
  refine zif (fun c => ?_) (fun c => ?_)
  · have c7 : cT B n t1 = 6 := by
      apply Classical.byContradiction
      intro q
      rw [if_neg q] at c
      omega
    have hop : ¬ oTest (cT B n t1) = 0 := by
      rw [c7]
      decide
    have hov : oTest (cT B n t1) = 5 := by
      rw [c7]
      rfl
    have htn : t1 < n := zNlt (c := cT B n) (fun u hu => cT_N u hu) (fun q => hop (by rw [q]; rfl))
    have hmo := NT_mono (c := cT B n) (t := t1) 1
    have h133 := NT_le133 hB t1
    refine nx_w (by omega) hB hP (fun μ3 a1 a2 a3 => ⟨rfl, ?_⟩)
    rw [a1.2.2.1]
    refine wr_w (by omega) a1 (by omega) (by decide) (by decide) (fun μ4 g1 g2 g3 g4 => ⟨rfl, ?_⟩)
    refine zCw.use (hp μ4 (t1 + 1) l1 (w + cc.length + 1) g1 hbd.1 htn (by omega)) hdp (fun r μ5 e => ?_)
    have hg := hG (t1 + 1) l1 (w + cc.length + 1) hbd.1 htn
    rcases h1 : pp (t1 + 1) l1 (w + cc.length + 1) with ⟨t2, _ | ⟨l2, m2, c2⟩⟩
    · obtain ⟨rfl, e1, e2⟩ := e.1 _ h1
      rw [show 400 - j = (400 - (j + 1)) + 1 by omega, pLoop_n hop h1] at hR
      refine ⟨0, rfl, ?_⟩
      rw [if_pos rfl, hR]
      exact RP_n rfl e1 (((hF.tr a2).tr g2).tr e2)
    obtain ⟨rfl, e1, e2, e3, e4⟩ := e.2 _ _ _ _ h1
    have hg1 := hg.2 _ _ _ _ h1
    rw [show 400 - j = (400 - (j + 1)) + 1 by omega, pLoop_s hop h1, pCat_cat, hov, if_pos rfl] at hR
    have h134 := NT_le133 hB t2
    refine ⟨1, rfl, ?_⟩
    rw [if_neg (by decide)]
    refine jh_w (by omega) e1 (by decide) (by omega) (by omega) (fun μ6 b1 b2 b3 b4 => ⟨rfl, zI_s (by omega) (by omega), znx (by omega) ⟨_, t2, l2, mOp 5 m1 m2, cc ++ ((5 * 4096 + ((w + cc.length + c2.length + 1 : Nat) : Int)) :: c2), rfl, ?_, ?_, fun i hi => ?_, (((hF.tr a2).tr g2).tr e4).tr b2, ?_, ?_⟩⟩)
    · simp only [List.length_append, List.length_cons]
      rw [show w + (cc.length + (c2.length + 1)) = w + cc.length + 1 + c2.length by omega]
      exact b1
    · rw [Seg_app, Seg_cons]
      refine ⟨Seg_d hS (fun i h0 hi => ?_), ?_, Seg_d e2 (fun i h0 hi => ?_)⟩
      · rw [b4 i (by omega), e3 i (by omega), g4 i (by omega), a3]
      · rw [b3]
        omega
      · rw [b4 i (by omega)]
    · rw [b4 i (by omega), e3 i (by omega), g4 i (by omega), a3]
      exact hlo i hi
    · simp only [List.length_append, List.length_cons]
      omega
    · simp only [List.length_append, List.length_cons]
      rw [hR, show w + (cc.length + (c2.length + 1)) = w + cc.length + c2.length + 1 by omega]
  · have hop : j = 400 ∨ oTest (cT B n t1) = 0 := by
      unfold oTest
      by_cases q : cT B n t1 = 6
      · rw [if_pos q] at c
        omega
      · rw [if_neg q]
        exact Or.inr rfl
    have hz : pLoop (cT B n) oTest true pp (400 - j) m1 t1 l1 (w + cc.length) = (t1, some (l1, m1, [])) := by
      rcases hop with rfl | hop
      · rfl
      · exact pLoop_0 hop
    rw [hz] at hR
    rw [hR]
    exact RP_s rfl (by rw [List.append_nil]; exact hP) (by rw [List.append_nil]; exact hS) hlo hF

