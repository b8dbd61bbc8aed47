/-! the reference reads a text -/
theorem q_M_readOne {d : Nat} (hd : 42 ≤ d) {Q : zTk} {o : Bool} (hQ : okK Q) {t l w : Nat} {μ : zMem} (h : MSt Q o t l μ) (hl : l ≤ 50) : zSp d 0 0 y_M_readOne zT0 [vr 355] μ zT0 (fun r μ' => r = none ∧ MU Q o (pcO o Q.1 Q.2.1 t l w) (fun a => a.1) μ μ') := by
  refine zSp.ss [vr 355] rfl (w_M_readOne (Nat.le_trans (by decide) hd)) rfl rfl ?_
  (try simp only [zit_e, Bool.and_eq_true, Bool.or_eq_true, Bool.not_eq_true', Bool.and_eq_false_iff, Bool.or_eq_false_iff, Bool.not_eq_false', zbe, zdt, zdf, zb2_p, zbp_0, zbp_1, zbp_inj, zbp_01, Bool.true_eq_false, Bool.false_eq_true, true_and, and_true, Decidable.not_not, Classical.not_not, implies_true, List.nil_append, List.cons_append, List.append_assoc, Option.some.injEq, Sum.inl.injEq, zSw_c, zSw_n]); (try simp only [zit_e, Bool.and_eq_true, Bool.or_eq_true, Bool.not_eq_true', Bool.and_eq_false_iff, Bool.or_eq_false_iff, Bool.not_eq_false', zbe, zdt, zdf, zb2_p, zbp_0, zbp_1, zbp_inj, zbp_01, Bool.true_eq_false, Bool.false_eq_true, true_and, and_true, Decidable.not_not, Classical.not_not, implies_true, List.nil_append, List.cons_append, List.append_assoc, Option.some.injEq, Sum.inl.injEq, zSw_c, zSw_n, zc_355]); (try simp only [zi_cs, zi_c0, zii_cs, zii_c0, zl_cs, zl_c0, zll_cs, zll_c0, zr_cs, zr_c0, zrr_cs, zrr_c0, zxs_cs, zxs_c0, zxx_cs, zxx_c0, zfree_c0, zfree_c1, zfree_cs, zfree_cz, zlong_i, zlong_r, zlong_x, zset_0, zset_s, true_and, and_true, Option.some.injEq, Sum.inl.injEq, Sum.inr.injEq, zb2_p, zbp_0, zbp_1, zbp_inj, zbp_01, Nat.zero_add, Nat.reduceAdd, implies_true, List.nil_append, List.cons_append, List.append_assoc, Int.not_lt, Int.not_le, Decidable.not_not, Int.zero_add, Int.reduceLE, Int.reduceLT, Int.reduceEq, Int.reduceNe, Int.reduceAdd, Int.reduceSub, Int.reduceMul, Int.reduceNeg, Int.reduceToNat, Nat.reduceMul, Nat.reduceLT, Nat.reduceEqDiff, and_self, ite_true, ite_false, zx1, zx2, zRecv, List.length_cons, List.length_nil, ne_eq, not_true_eq_false, not_false_eq_true, true_or, or_true, or_false, false_or, and_false, false_and, zf01, zf10, reduceCtorEq, zSw_c, zSw_n, zm_r, zit_T, zit_F, false_implies, true_implies, zc_355])
  rw [h.2.2.2.2.1]
  unfold pcO
  cases o with
  | true =>
    rw [if_pos (by decide)]
    exact zCw.use (q_M_readOrder (d := 40) (Nat.le_refl _) hQ h hl (w := w)) (by omega) (fun r μ2 e => e)
  | false =>
    rw [if_neg (by decide)]
    exact zCw.use (q_M_readClause (d := 40) (Nat.le_refl _) hQ h hl (w := w)) (by omega) (fun r μ2 e => e)
def pK (c : Nat → Int) (fin : Nat → Bool) (pc : Nat → Nat → Nat → PcR) (f t l w : Nat) : Nat × Option (List Cls × List Int) := if c t = 159 then pCls c fin pc f (t + 1) l w else if fin t = true then (t, some ([], [])) else (t, none)
theorem pCls_K {c : Nat → Int} {fin : Nat → Bool} {pc : Nat → Nat → Nat → PcR} {f t l w t1 l1 : Nat} {cl : Cls} {c1 : List Int} (h : pc t l w = (t1, some (l1, cl, c1))) : pCls c fin pc (f + 1) t l w = lCat [cl] c1 (pK c fin pc f t1 l1 (w + c1.length)) := by
  unfold pK
  by_cases h2 : c t1 = 159
  · rw [pCls_s h h2, if_pos h2]
  · rw [pCls_e h h2, if_neg h2]
    split
    · rw [lCat, List.append_nil, List.append_nil]
    · rfl
theorem lCat_n {cs : List Cls} {cc : List Int} {t : Nat} : lCat cs cc (t, none) = (t, none) := rfl
theorem MU_M {α : Type} {Q : zTk} {o : Bool} {R : Nat × Option α} {lf : α → Nat} {μ μ' : zMem} (h : MU Q o R lf μ μ') : FM μ μ' := by
  rcases h1 : R with ⟨t, _ | a⟩
  · exact (h.1 _ h1).2
  · exact (h.2 _ _ h1).2
/-- behind the reference's reading -/
def MRd (B : Int → Int) (n : Nat) (R : Nat × Option (List Cls × List Int)) (μ : zMem) : zRo := fun r μ' => (∀ t, R = (t, none) → r = some (vi 0) ∧ μ' 355 12 = (ps B n t : Int)) ∧ (∀ t a, R = (t, some a) → r = some (vi 1) ∧ μ' 355 12 = -1) ∧ μ' 355 11 = 0 ∧ (∃ N : Nat, TKs (cT B n, vT B n, fun u => (ps B n u : Int), N) μ' ∧ okK (cT B n, vT B n, fun u => (ps B n u : Int), N) ∧ (∀ u, u < N → ps B n u < n) ∧ ps B n N = n) ∧ (∀ j : Int, j ≠ 11 → j ≠ 12 → j ≠ 16 → j ≠ 17 → j ≠ 18 → j ≠ 19 → μ' 355 j = μ 355 j) ∧ zfc [355, 364, 365, 366] μ μ'
set_option maxRecDepth 20000 in
theorem q_M_reads {d : Nat} (hd : 50 ≤ d) {μ : zMem} {B : Int → Int} {n : Nat} {o : Bool} (hB : okB B n) (hn : μ 355 11 = (n : Int)) (ho : μ 355 8 = if o = true then 1 else 0) (hT : ∀ i : Nat, i < n → μ 362 i = sgn (B i)) (hw : ∀ i : Int, 0 ≤ i → i < 147 → μ 361 i = wTab i) : zSp d 0 0 y_M_reads zT0 [vr 355] μ zT0 (MRd B n (pCls (cT B n) (fun t => decide (n ≤ ps B n t)) (pcO o (cT B n) (vT B n)) 12 0 0 85) μ) := by
  have hB1 := hB.1
  refine zSp.ss [vr 355, vx 0] rfl (w_M_reads (Nat.le_trans (by decide) hd)) rfl rfl ?_
  (try simp only [zit_e, Bool.and_eq_true, Bool.or_eq_true, Bool.not_eq_true', Bool.and_eq_false_iff, Bool.or_eq_false_iff, Bool.not_eq_false', zbe, zdt, zdf, zb2_p, zbp_0, zbp_1, zbp_inj, zbp_01, Bool.true_eq_false, Bool.false_eq_true, true_and, and_true, Decidable.not_not, Classical.not_not, implies_true, List.nil_append, List.cons_append, List.append_assoc, Option.some.injEq, Sum.inl.injEq, zSw_c, zSw_n]); (try simp only [zit_e, Bool.and_eq_true, Bool.or_eq_true, Bool.not_eq_true', Bool.and_eq_false_iff, Bool.or_eq_false_iff, Bool.not_eq_false', zbe, zdt, zdf, zb2_p, zbp_0, zbp_1, zbp_inj, zbp_01, Bool.true_eq_false, Bool.false_eq_true, true_and, and_true, Decidable.not_not, Classical.not_not, implies_true, List.nil_append, List.cons_append, List.append_assoc, Option.some.injEq, Sum.inl.injEq, zSw_c, zSw_n, zc_355, f_M_fine, g_M_fine, f_M_sign, g_M_sign]); (try simp only [zi_cs, zi_c0, zii_cs, zii_c0, zl_cs, zl_c0, zll_cs, zll_c0, zr_cs, zr_c0, zrr_cs, zrr_c0, zxs_cs, zxs_c0, zxx_cs, zxx_c0, zfree_c0, zfree_c1, zfree_cs, zfree_cz, zlong_i, zlong_r, zlong_x, zset_0, zset_s, true_and, and_true, Option.some.injEq, Sum.inl.injEq, Sum.inr.injEq, zb2_p, zbp_0, zbp_1, zbp_inj, zbp_01, Nat.zero_add, Nat.reduceAdd, implies_true, List.nil_append, List.cons_append, List.append_assoc, Int.not_lt, Int.not_le, Decidable.not_not, Int.zero_add, Int.reduceLE, Int.reduceLT, Int.reduceEq, Int.reduceNe, Int.reduceAdd, Int.reduceSub, Int.reduceMul, Int.reduceNeg, Int.reduceToNat, Nat.reduceMul, Nat.reduceLT, Nat.reduceEqDiff, and_self, ite_true, ite_false, zx1, zx2, zRecv, List.length_cons, List.length_nil, ne_eq, not_true_eq_false, not_false_eq_true, true_or, or_true, or_false, false_or, and_false, false_and, zf01, zf10, reduceCtorEq, zSw_c, zSw_n, zm_r, zit_T, zit_F, false_implies, true_implies, zc_355, f_M_fine, g_M_fine, f_M_sign, g_M_sign])
  rw [hn]
  refine zCw.use (q_M_splits (d := 4) (Nat.le_refl _) hB hT hw) (by omega) (fun r μ0 e => ?_)
  obtain ⟨rfl, ⟨N, hK, hQ, hlt, hN⟩, e2, e3⟩ := e
  refine ⟨rfl, ?_⟩
  generalize hQ0 : ((cT B n, vT B n, fun u => (ps B n u : Int), N) : zTk) = Q at hK hQ
  have q1 : Q.1 = cT B n := by rw [← hQ0]
  have q2 : Q.2.1 = vT B n := by rw [← hQ0]
  have q3 : Q.2.2.1 = fun u => (ps B n u : Int) := by rw [← hQ0]
  have q4 : Q.2.2.2 = N := by rw [← hQ0]
  have hA : MSt Q o 0 0 (zm (zm (zm (zm μ0 355 11 0) 355 17 0) 355 18 0) 355 19 (-1)) := by
    refine ⟨⟨?_, fun u hu => ?_⟩, ?_, ?_, ?_, ?_, Nat.zero_le _⟩
    · simp only [zi_cs, zi_c0, zii_cs, zii_c0, zl_cs, zl_c0, zll_cs, zll_c0, zr_cs, zr_c0, zrr_cs, zrr_c0, zxs_cs, zxs_c0, zxx_cs, zxx_c0, zfree_c0, zfree_c1, zfree_cs, zfree_cz, zlong_i, zlong_r, zlong_x, zset_0, zset_s, true_and, and_true, Option.some.injEq, Sum.inl.injEq, Sum.inr.injEq, zb2_p, zbp_0, zbp_1, zbp_inj, zbp_01, Nat.zero_add, Nat.reduceAdd, implies_true, List.nil_append, List.cons_append, List.append_assoc, Int.not_lt, Int.not_le, Decidable.not_not, Int.zero_add, Int.reduceLE, Int.reduceLT, Int.reduceEq, Int.reduceNe, Int.reduceAdd, Int.reduceSub, Int.reduceMul, Int.reduceNeg, Int.reduceToNat, Nat.reduceMul, Nat.reduceLT, Nat.reduceEqDiff, and_self, ite_true, ite_false, zx1, zx2, zRecv, List.length_cons, List.length_nil, ne_eq, not_true_eq_false, not_false_eq_true, true_or, or_true, or_false, false_or, and_false, false_and, zf01, zf10, reduceCtorEq, zSw_c, zSw_n, zm_r, zit_T, zit_F, false_implies, true_implies]
      exact hK.1
    · simp only [zi_cs, zi_c0, zii_cs, zii_c0, zl_cs, zl_c0, zll_cs, zll_c0, zr_cs, zr_c0, zrr_cs, zrr_c0, zxs_cs, zxs_c0, zxx_cs, zxx_c0, zfree_c0, zfree_c1, zfree_cs, zfree_cz, zlong_i, zlong_r, zlong_x, zset_0, zset_s, true_and, and_true, Option.some.injEq, Sum.inl.injEq, Sum.inr.injEq, zb2_p, zbp_0, zbp_1, zbp_inj, zbp_01, Nat.zero_add, Nat.reduceAdd, implies_true, List.nil_append, List.cons_append, List.append_assoc, Int.not_lt, Int.not_le, Decidable.not_not, Int.zero_add, Int.reduceLE, Int.reduceLT, Int.reduceEq, Int.reduceNe, Int.reduceAdd, Int.reduceSub, Int.reduceMul, Int.reduceNeg, Int.reduceToNat, Nat.reduceMul, Nat.reduceLT, Nat.reduceEqDiff, and_self, ite_true, ite_false, zx1, zx2, zRecv, List.length_cons, List.length_nil, ne_eq, not_true_eq_false, not_false_eq_true, true_or, or_true, or_false, false_or, and_false, false_and, zf01, zf10, reduceCtorEq, zSw_c, zSw_n, zm_r, zit_T, zit_F, false_implies, true_implies]
      exact hK.2 u hu
    · simp only [zi_cs, zi_c0, zii_cs, zii_c0, zl_cs, zl_c0, zll_cs, zll_c0, zr_cs, zr_c0, zrr_cs, zrr_c0, zxs_cs, zxs_c0, zxx_cs, zxx_c0, zfree_c0, zfree_c1, zfree_cs, zfree_cz, zlong_i, zlong_r, zlong_x, zset_0, zset_s, true_and, and_true, Option.some.injEq, Sum.inl.injEq, Sum.inr.injEq, zb2_p, zbp_0, zbp_1, zbp_inj, zbp_01, Nat.zero_add, Nat.reduceAdd, implies_true, List.nil_append, List.cons_append, List.append_assoc, Int.not_lt, Int.not_le, Decidable.not_not, Int.zero_add, Int.reduceLE, Int.reduceLT, Int.reduceEq, Int.reduceNe, Int.reduceAdd, Int.reduceSub, Int.reduceMul, Int.reduceNeg, Int.reduceToNat, Nat.reduceMul, Nat.reduceLT, Nat.reduceEqDiff, and_self, ite_true, ite_false, zx1, zx2, zRecv, List.length_cons, List.length_nil, ne_eq, not_true_eq_false, not_false_eq_true, true_or, or_true, or_false, false_or, and_false, false_and, zf01, zf10, reduceCtorEq, zSw_c, zSw_n, zm_r, zit_T, zit_F, false_implies, true_implies]
      rfl
    · simp only [zi_cs, zi_c0, zii_cs, zii_c0, zl_cs, zl_c0, zll_cs, zll_c0, zr_cs, zr_c0, zrr_cs, zrr_c0, zxs_cs, zxs_c0, zxx_cs, zxx_c0, zfree_c0, zfree_c1, zfree_cs, zfree_cz, zlong_i, zlong_r, zlong_x, zset_0, zset_s, true_and, and_true, Option.some.injEq, Sum.inl.injEq, Sum.inr.injEq, zb2_p, zbp_0, zbp_1, zbp_inj, zbp_01, Nat.zero_add, Nat.reduceAdd, implies_true, List.nil_append, List.cons_append, List.append_assoc, Int.not_lt, Int.not_le, Decidable.not_not, Int.zero_add, Int.reduceLE, Int.reduceLT, Int.reduceEq, Int.reduceNe, Int.reduceAdd, Int.reduceSub, Int.reduceMul, Int.reduceNeg, Int.reduceToNat, Nat.reduceMul, Nat.reduceLT, Nat.reduceEqDiff, and_self, ite_true, ite_false, zx1, zx2, zRecv, List.length_cons, List.length_nil, ne_eq, not_true_eq_false, not_false_eq_true, true_or, or_true, or_false, false_or, and_false, false_and, zf01, zf10, reduceCtorEq, zSw_c, zSw_n, zm_r, zit_T, zit_F, false_implies, true_implies]
      rfl
    · simp only [zi_cs, zi_c0, zii_cs, zii_c0, zl_cs, zl_c0, zll_cs, zll_c0, zr_cs, zr_c0, zrr_cs, zrr_c0, zxs_cs, zxs_c0, zxx_cs, zxx_c0, zfree_c0, zfree_c1, zfree_cs, zfree_cz, zlong_i, zlong_r, zlong_x, zset_0, zset_s, true_and, and_true, Option.some.injEq, Sum.inl.injEq, Sum.inr.injEq, zb2_p, zbp_0, zbp_1, zbp_inj, zbp_01, Nat.zero_add, Nat.reduceAdd, implies_true, List.nil_append, List.cons_append, List.append_assoc, Int.not_lt, Int.not_le, Decidable.not_not, Int.zero_add, Int.reduceLE, Int.reduceLT, Int.reduceEq, Int.reduceNe, Int.reduceAdd, Int.reduceSub, Int.reduceMul, Int.reduceNeg, Int.reduceToNat, Nat.reduceMul, Nat.reduceLT, Nat.reduceEqDiff, and_self, ite_true, ite_false, zx1, zx2, zRecv, List.length_cons, List.length_nil, ne_eq, not_true_eq_false, not_false_eq_true, true_or, or_true, or_false, false_or, and_false, false_and, zf01, zf10, reduceCtorEq, zSw_c, zSw_n, zm_r, zit_T, zit_F, false_implies, true_implies]
    · simp only [zi_cs, zi_c0, zii_cs, zii_c0, zl_cs, zl_c0, zll_cs, zll_c0, zr_cs, zr_c0, zrr_cs, zrr_c0, zxs_cs, zxs_c0, zxx_cs, zxx_c0, zfree_c0, zfree_c1, zfree_cs, zfree_cz, zlong_i, zlong_r, zlong_x, zset_0, zset_s, true_and, and_true, Option.some.injEq, Sum.inl.injEq, Sum.inr.injEq, zb2_p, zbp_0, zbp_1, zbp_inj, zbp_01, Nat.zero_add, Nat.reduceAdd, implies_true, List.nil_append, List.cons_append, List.append_assoc, Int.not_lt, Int.not_le, Decidable.not_not, Int.zero_add, Int.reduceLE, Int.reduceLT, Int.reduceEq, Int.reduceNe, Int.reduceAdd, Int.reduceSub, Int.reduceMul, Int.reduceNeg, Int.reduceToNat, Nat.reduceMul, Nat.reduceLT, Nat.reduceEqDiff, and_self, ite_true, ite_false, zx1, zx2, zRecv, List.length_cons, List.length_nil, ne_eq, not_true_eq_false, not_false_eq_true, true_or, or_true, or_false, false_or, and_false, false_and, zf01, zf10, reduceCtorEq, zSw_c, zSw_n, zm_r, zit_T, zit_F, false_implies, true_implies]
      rw [e2 8 (by decide)]
      exact ho
  have fA : (∀ j : Int, j ≠ 11 → j ≠ 12 → j ≠ 16 → j ≠ 17 → j ≠ 18 → j ≠ 19 → zm (zm (zm (zm μ0 355 11 0) 355 17 0) 355 18 0) 355 19 (-1) 355 j = μ 355 j) ∧ zfc [355, 364, 365, 366] μ (zm (zm (zm (zm μ0 355 11 0) 355 17 0) 355 18 0) 355 19 (-1)) := by
    refine ⟨fun j a1 a2 a3 a4 a5 a6 => ?_, (((e3.zm (by decide)).zm (by decide)).zm (by decide)).zm (by decide)⟩
    rw [zm_j a6, zm_j a5, zm_j a4, zm_j a1, e2 j a3]
  have f11 : zm (zm (zm (zm μ0 355 11 0) 355 17 0) 355 18 0) 355 19 (-1) 355 11 = 0 := by
    simp only [zi_cs, zi_c0, zii_cs, zii_c0, zl_cs, zl_c0, zll_cs, zll_c0, zr_cs, zr_c0, zrr_cs, zrr_c0, zxs_cs, zxs_c0, zxx_cs, zxx_c0, zfree_c0, zfree_c1, zfree_cs, zfree_cz, zlong_i, zlong_r, zlong_x, zset_0, zset_s, true_and, and_true, Option.some.injEq, Sum.inl.injEq, Sum.inr.injEq, zb2_p, zbp_0, zbp_1, zbp_inj, zbp_01, Nat.zero_add, Nat.reduceAdd, implies_true, List.nil_append, List.cons_append, List.append_assoc, Int.not_lt, Int.not_le, Decidable.not_not, Int.zero_add, Int.reduceLE, Int.reduceLT, Int.reduceEq, Int.reduceNe, Int.reduceAdd, Int.reduceSub, Int.reduceMul, Int.reduceNeg, Int.reduceToNat, Nat.reduceMul, Nat.reduceLT, Nat.reduceEqDiff, and_self, ite_true, ite_false, zx1, zx2, zRecv, List.length_cons, List.length_nil, ne_eq, not_true_eq_false, not_false_eq_true, true_or, or_true, or_false, false_or, and_false, false_and, zf01, zf10, reduceCtorEq, zSw_c, zSw_n, zm_r, zit_T, zit_F, false_implies, true_implies]
  clear hK e2 e3
  generalize zm (zm (zm (zm μ0 355 11 0) 355 17 0) 355 18 0) 355 19 (-1) = μA at *
  generalize hR : pCls (cT B n) (fun t => decide (n ≤ ps B n t)) (pcO o (cT B n) (vT B n)) 12 0 0 85 = R
  -- a clause is read
  have one : ∀ {t l w f : Nat} {cs : List Cls} {cc : List Int} {μ1 : zMem}, MSt Q o t l μ1 → l ≤ 50 → t ≤ n → FM μA μ1 → R = lCat cs cc (pCls (cT B n) (fun t => decide (n ≤ ps B n t)) (pcO o (cT B n) (vT B n)) (f + 1) t l w) → ∀ μ2, MU Q o (pcO o Q.1 Q.2.1 t l w) (fun a => a.1) μ1 μ2 → FM μA μ2 ∧ TKs Q μ2 ∧ ((∃ t1, R = (t1, none) ∧ μ2 355 19 = (ps B n t1 : Int)) ∨ ∃ (t1 l1 w1 : Nat) (cs : List Cls) (cc : List Int), MSt Q o t1 l1 μ2 ∧ l1 ≤ 50 ∧ t1 ≤ n ∧ R = lCat cs cc (pK (cT B n) (fun t => decide (n ≤ ps B n t)) (pcO o (cT B n) (vT B n)) f t1 l1 w1)) := by
    intro t l w f cs cc μ1 h1 h2 h3 h4 h5 μ2 h6
    refine ⟨h4.tr (MU_M h6), TKs_c h1.1 (MU_M h6), ?_⟩
    rw [q1, q2] at h6
    rcases hp : pcO o (cT B n) (vT B n) t l w with ⟨t1, _ | ⟨l1, cl, c1⟩⟩
    · refine Or.inl ⟨t1, ?_, ?_⟩
      · rw [h5, pCls_n hp, lCat_n]
      · rw [(h6.1 _ hp).1, q3]
    · have hg := pcO_PG hp h2 h3
      refine Or.inr ⟨t1, l1, w + c1.length, cs ++ [cl], cc ++ c1, (h6.2 _ _ hp).1, hg.1, hg.2.1, ?_⟩
      rw [h5, pCls_K hp, lCat_cat]
  refine zCw.use (q_M_readOne (d := 42) (Nat.le_refl _) hQ hA (Nat.zero_le _) (w := 85)) (by omega) (fun r μ1 e => ?_)
  obtain ⟨rfl, e⟩ := e
  refine ⟨rfl, ?_⟩
  have s1 := one hA (Nat.zero_le _) (Nat.zero_le _) FM.rf (f := 11) (cs := []) (cc := []) (by rw [← hR]; rcases pCls (cT B n) (fun t => decide (n ≤ ps B n t)) (pcO o (cT B n) (vT B n)) 12 0 0 85 with ⟨t, _ | ⟨a, b⟩⟩ <;> rfl) μ1 e
  clear e hR hA
  refine zLoop.up 13 (fun j ρ μ1 => ρ = [vr 355, vi ((j + 1 : Nat) : Int)] ∧ FM μA μ1 ∧ TKs Q μ1 ∧ ((∃ t1, R = (t1, none) ∧ μ1 355 19 = (ps B n t1 : Int)) ∨ (j ≤ 11 ∧ ∃ (t1 l1 w1 : Nat) (cs : List Cls) (cc : List Int), MSt Q o t1 l1 μ1 ∧ l1 ≤ 50 ∧ t1 ≤ n ∧ R = lCat cs cc (pK (cT B n) (fun t => decide (n ≤ ps B n t)) (pcO o (cT B n) (vT B n)) (11 - j) t1 l1 w1)))) ⟨rfl, s1.1, s1.2.1, s1.2.2.imp (fun h => h) (fun h => ⟨by decide, h⟩)⟩ ?_
  clear s1
  have kp : ∀ {μ3 : zMem}, FM μA μ3 → TKs Q μ3 → (zm μ3 355 12 (μ3 355 19)) 355 11 = 0 ∧ (∃ N : Nat, TKs (cT B n, vT B n, fun u => (ps B n u : Int), N) (zm μ3 355 12 (μ3 355 19)) ∧ okK (cT B n, vT B n, fun u => (ps B n u : Int), N) ∧ (∀ u, u < N → ps B n u < n) ∧ ps B n N = n) ∧ (∀ j : Int, j ≠ 11 → j ≠ 12 → j ≠ 16 → j ≠ 17 → j ≠ 18 → j ≠ 19 → (zm μ3 355 12 (μ3 355 19)) 355 j = μ 355 j) ∧ zfc [355, 364, 365, 366] μ (zm μ3 355 12 (μ3 355 19)) := by
    intro μ3 h1 h2
    refine ⟨?_, ⟨N, ⟨?_, fun u hu => ?_⟩, ?_, hlt, hN⟩, fun j a1 a2 a3 a4 a5 a6 => ?_, ((fA.2.tr h1.1).mo (by simp)).zm (by decide)⟩
    · rw [zm_j (by decide), h1.2 11 (by decide) (by decide) (by decide), f11]
    · rw [zm_j (by decide), h2.1, ← hQ0]
    · rw [zm_off 364 (by decide), zm_off 365 (by decide), zm_off 366 (by decide)]
      have := h2.2 u (by rw [q4]; exact hu)
      rw [q1, q2, q3] at this
      exact this
    · rw [hQ0]
      exact hQ
    · rw [zm_j a2, h1.2 j a4 a5 a6, fA.1 j a1 a2 a3 a4 a5 a6]
  have endn : ∀ {t1 : Nat} {μ3 : zMem}, FM μA μ3 → TKs Q μ3 → R = (t1, none) → μ3 355 19 = (ps B n t1 : Int) → (¬μ3 355 19 = -1 ∨ μ3 355 19 = -1) ∧ MRd B n R μ (some (vi (zbp (μ3 355 19 = -1)))) (zm μ3 355 12 (μ3 355 19)) := by
    intro t1 μ3 h1 h2 h3 h4
    refine ⟨by omega, fun t e => ?_, fun t a e => ?_, kp h1 h2⟩
    · rw [h3] at e
      cases e
      refine ⟨by rw [zbf (by omega)], ?_⟩
      rw [zm_s, h4]
    · rw [h3] at e
      cases e
  have ends : ∀ {t1 : Nat} {a : List Cls × List Int} {μ3 : zMem}, FM μA μ3 → TKs Q μ3 → R = (t1, some a) → μ3 355 19 = -1 → (¬μ3 355 19 = -1 ∨ μ3 355 19 = -1) ∧ MRd B n R μ (some (vi (zbp (μ3 355 19 = -1)))) (zm μ3 355 12 (μ3 355 19)) := by
    intro t1 a μ3 h1 h2 h3 h4
    refine ⟨by omega, fun t e => ?_, fun t a e => ?_, kp h1 h2⟩
    · rw [h3] at e
      cases e
    · refine ⟨by rw [zbt h4], ?_⟩
      rw [zm_s, h4]
  rintro j ρ μ2 hj ⟨rfl, hF, hK, hS⟩
  (try simp only [zit_e, Bool.and_eq_true, Bool.or_eq_true, Bool.not_eq_true', Bool.and_eq_false_iff, Bool.or_eq_false_iff, Bool.not_eq_false', zbe, zdt, zdf, zb2_p, zbp_0, zbp_1, zbp_inj, zbp_01, Bool.true_eq_false, Bool.false_eq_true, true_and, and_true, Decidable.not_not, Classical.not_not, implies_true, List.nil_append, List.cons_append, List.append_assoc, Option.some.injEq, Sum.inl.injEq, zSw_c, zSw_n]); (try simp only [zit_e, Bool.and_eq_true, Bool.or_eq_true, Bool.not_eq_true', Bool.and_eq_false_iff, Bool.or_eq_false_iff, Bool.not_eq_false', zbe, zdt, zdf, zb2_p, zbp_0, zbp_1, zbp_inj, zbp_01, Bool.true_eq_false, Bool.false_eq_true, true_and, and_true, Decidable.not_not, Classical.not_not, implies_true, List.nil_append, List.cons_append, List.append_assoc, Option.some.injEq, Sum.inl.injEq, zSw_c, zSw_n, zc_355, f_M_fine, g_M_fine, f_M_sign, g_M_sign]); (try simp only [zi_cs, zi_c0, zii_cs, zii_c0, zl_cs, zl_c0, zll_cs, zll_c0, zr_cs, zr_c0, zrr_cs, zrr_c0, zxs_cs, zxs_c0, zxx_cs, zxx_c0, zfree_c0, zfree_c1, zfree_cs, zfree_cz, zlong_i, zlong_r, zlong_x, zset_0, zset_s, true_and, and_true, Option.some.injEq, Sum.inl.injEq, Sum.inr.injEq, zb2_p, zbp_0, zbp_1, zbp_inj, zbp_01, Nat.zero_add, Nat.reduceAdd, implies_true, List.nil_append, List.cons_append, List.append_assoc, Int.not_lt, Int.not_le, Decidable.not_not, Int.zero_add, Int.reduceLE, Int.reduceLT, Int.reduceEq, Int.reduceNe, Int.reduceAdd, Int.reduceSub, Int.reduceMul, Int.reduceNeg, Int.reduceToNat, Nat.reduceMul, Nat.reduceLT, Nat.reduceEqDiff, and_self, ite_true, ite_false, zx1, zx2, zRecv, List.length_cons, List.length_nil, ne_eq, not_true_eq_false, not_false_eq_true, true_or, or_true, or_false, false_or, and_false, false_and, zf01, zf10, reduceCtorEq, zSw_c, zSw_n, zm_r, zit_T, zit_F, false_implies, true_implies, zc_355, f_M_fine, g_M_fine, f_M_sign, g_M_sign])
  rcases hS with ⟨t1, h1, h2⟩ | ⟨hj11, t1, l1, w1, cs, cc, hM, hl1, ht1, hR⟩
  · refine t0_n (by omega) (by omega) ⟨_, rfl, ?_⟩
    rw [if_neg (by decide), if_neg (by omega)]
    exact endn hF hK h1 h2
  have h19 := hM.2.2.2.1
  refine t0_w (by omega) hQ hM (by decide) (fun c μ3 a1 a2 => ⟨_, rfl, ?_⟩) (fun c => ⟨_, rfl, ?_⟩)
  · rw [if_pos (by decide)]
    rw [q1] at c
    have htn : t1 < n := zNlt (c := cT B n) (fun u hu => cT_N u hu) (by rw [c]; decide)
    unfold pK at hR
    rw [if_pos c] at hR
    have e19 := a1.2.2.2.1
    refine zif (fun c1 => ?_) (fun c1 => ?_)
    · refine fa_w (by omega) hQ a1 (fun μ4 b1 b2 => ⟨rfl, ?_⟩)
      replace b1 : μ4 355 19 = (ps B n (t1 + 1) : Int) := by rw [b1, q3]
      rw [if_neg (by omega)]
      rw [show 11 - j = 0 by omega, pCls, lCat_n] at hR
      exact ⟨zI_s (by omega) (by omega), _, (show 13 - (j + 1) < 13 - j by omega), j + 1, rfl, by omega, rfl, (hF.tr a2).tr b2, TKs_c a1.1 b2, Or.inl ⟨t1 + 1, hR, b1⟩⟩
    · rw [if_pos e19]
      rw [show 11 - j = (11 - (j + 1)) + 1 by omega] at hR
      refine zCw.use (q_M_readOne (d := 42) (Nat.le_refl _) hQ a1 hl1 (w := w1)) (by omega) (fun r μ4 e => ?_)
      obtain ⟨rfl, e⟩ := e
      have s1 := one a1 hl1 (by omega) (hF.tr a2) hR μ4 e
      exact ⟨rfl, zI_s (by omega) (by omega), _, (show 13 - (j + 1) < 13 - j by omega), j + 1, rfl, by omega, rfl, s1.1, s1.2.1, s1.2.2.imp (fun h => h) (fun h => ⟨by omega, h⟩)⟩
  · rw [if_neg (by decide)]
    rw [q1] at c
    unfold pK at hR
    rw [if_neg c] at hR
    have hfin : (n ≤ ps B n t1) ↔ ¬ t1 < N := by
      have ht := hM.2.2.2.2.2
      rw [q4] at ht
      by_cases q : t1 < N
      · have := hlt t1 q
        omega
      · rw [show t1 = N by omega, hN]
        omega
    rw [hM.2.1, hM.1.1, q4]
    refine zif (fun c1 => ?_) (fun c1 => ?_)
    · rw [if_neg (by rw [decide_eq_true_eq, hfin]; omega), lCat_n] at hR
      refine fa_w (by omega) hQ hM (fun μ4 b1 b2 => ⟨rfl, ?_⟩)
      replace b1 : μ4 355 19 = (ps B n t1 : Int) := by rw [b1, q3]
      exact endn (hF.tr b2) (TKs_c hK b2) hR b1
    · rw [if_pos (by rw [decide_eq_true_eq, hfin]; omega)] at hR
      exact ends hF hK hR h19

