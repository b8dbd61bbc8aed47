/-! the reference's sums and tests, gone along -/
theorem ev_sum {live br c : Int} {E1 E2 : Option Int} (hl : live = 0 ∨ live = 1) (hb : br = 0 ∨ br = 1) (hc : c = 143 ∨ c = 145) : evK live br (if c = 143 then evV live br E1 + evV live (evB live br E1) E2 else evV live br E1 - evV live (evB live br E1) E2) (evB live (evB live br E1) E2) (mE (oSum c) E1 E2) := by
  by_cases hd : live = 0 ∨ ¬ br = 0
  · rw [(evV_d hd).1, (evV_d hd).2, (evV_d hd).1, (evV_d hd).2]
    rw [show (if c = 143 then (0 : Int) + 0 else 0 - 0) = 0 by split <;> rfl]
    exact evK_d hd
  have hv : live = 1 ∧ br = 0 := by omega
  rcases E1 with _ | a
  · rw [(evV_n hv rfl).2]
    have hd2 : live = 0 ∨ ¬ (1 : Int) = 0 := Or.inr (by decide)
    rw [(evV_d hd2).1, (evV_d hd2).2]
    exact evK_n hv
  rw [(evV_s hv rfl).2, (evV_s hv rfl).1]
  have hv2 : live = 1 ∧ (0 : Int) = 0 := ⟨hv.1, rfl⟩
  rcases E2 with _ | b
  · rw [(evV_n hv2 rfl).2, (evV_n hv2 rfl).1]
    exact evK_n hv
  rw [(evV_s hv2 rfl).2, (evV_s hv2 rfl).1]
  have e3 : mE (oSum c) (some a) (some b) = opV (oSum c) a b := rfl
  rw [e3]
  have : opV (oSum c) a b = bnd (if c = 143 then a + b else a - b) := by
    unfold oSum opV
    by_cases c2 : c = 143
    · simp [c2]
    · simp [show c = 145 by omega]
  rw [this]
  exact evK_s hv
theorem q_M_sumOf {d dp : Nat} (hd : 4 ≤ d) (hdp : dp + 1 ≤ d) {Q : zTk} {o : Bool} {b : Int} {W : Int → Int} {pp : Pr} (hQ : okK Q) (hG : PG Q.1 Q.2.2.2 pp) (hp : ECT ESm dp y_M_termOf Q o b W pp) : ECT ESm d y_M_sumOf Q o b W (pRow Q.1 oSum false pp) := by
  intro μ live br t l w t1 l1 m c hlv hbr h hg h22 hl ht hR
  refine zSp.ss [vr 355, vi live, vx 0, vx 0, vx 0, vx 0, vx 0] rfl (w_M_sumOf (Nat.le_trans (by decide) hd)) rfl rfl ?_
  (try simp only [zit_e, Bool.and_eq_true, Bool.or_eq_true, Bool.not_eq_true', Bool.and_eq_false_iff, Bool.or_eq_false_iff, Bool.not_eq_false', zbe, zdt, zdf, zb2_p, zbp_0, zbp_1, zbp_inj, zbp_01, Bool.true_eq_false, Bool.false_eq_true, true_and, and_true, Decidable.not_not, Classical.not_not, implies_true, List.nil_append, List.cons_append, List.append_assoc, Option.some.injEq, Sum.inl.injEq, zSw_c, zSw_n]); (try simp only [zit_e, Bool.and_eq_true, Bool.or_eq_true, Bool.not_eq_true', Bool.and_eq_false_iff, Bool.or_eq_false_iff, Bool.not_eq_false', zbe, zdt, zdf, zb2_p, zbp_0, zbp_1, zbp_inj, zbp_01, Bool.true_eq_false, Bool.false_eq_true, true_and, and_true, Decidable.not_not, Classical.not_not, implies_true, List.nil_append, List.cons_append, List.append_assoc, Option.some.injEq, Sum.inl.injEq, zSw_c, zSw_n, zc_355, f_M_sign, g_M_sign, f_M_codeAt, g_M_codeAt]); (try simp only [zi_cs, zi_c0, zii_cs, zii_c0, zl_cs, zl_c0, zll_cs, zll_c0, zr_cs, zr_c0, zrr_cs, zrr_c0, zxs_cs, zxs_c0, zxx_cs, zxx_c0, zfree_c0, zfree_c1, zfree_cs, zfree_cz, zlong_i, zlong_r, zlong_x, zset_0, zset_s, true_and, and_true, Option.some.injEq, Sum.inl.injEq, Sum.inr.injEq, zb2_p, zbp_0, zbp_1, zbp_inj, zbp_01, Nat.zero_add, Nat.reduceAdd, implies_true, List.nil_append, List.cons_append, List.append_assoc, Int.not_lt, Int.not_le, Decidable.not_not, Int.zero_add, Int.reduceLE, Int.reduceLT, Int.reduceEq, Int.reduceNe, Int.reduceAdd, Int.reduceSub, Int.reduceMul, Int.reduceNeg, Int.reduceToNat, Nat.reduceMul, Nat.reduceLT, Nat.reduceEqDiff, and_self, ite_true, ite_false, zx1, zx2, zRecv, List.length_cons, List.length_nil, ne_eq, not_true_eq_false, not_false_eq_true, true_or, or_true, or_false, false_or, and_false, false_and, zf01, zf10, reduceCtorEq, zSw_c, zSw_n, zm_r, zit_T, zit_F, false_implies, true_implies, zc_355, f_M_sign, g_M_sign, f_M_codeAt, g_M_codeAt])
  rcases e1 : pp t l w with ⟨t2, _ | ⟨l2, m2, c2⟩⟩
  · rw [pRow_n e1] at hR
    cases hR
  rw [pRow_s e1] at hR
  refine zCw.use (hp μ live br t l w t2 l2 m2 c2 hlv hbr h hg h22 hl ht e1) hdp (fun r μ1 e => ?_)
  obtain ⟨rfl, e2, e3, e4, e5⟩ := e
  refine ⟨_, rfl, ?_⟩
  have hg1 := (hG t l w hl ht).2 _ _ _ _ e1
  have hN4 := hQ.1
  refine zLoop.mk (fun k ρ μ2 => ∃ (t2 l2 f : Nat) (m2 : Mn) (cc : List Int) (x4 x5 x6 : zV), ρ = [vr 355, vi live, vl (evV live br (m2 W)), vx 0, x4, x5, x6] ∧ (-1000000000 ≤ evV live br (m2 W) ∧ evV live br (m2 W) ≤ 1000000000) ∧ Q.2.2.2 ≤ t2 + f ∧ l2 ≤ 50 ∧ t2 ≤ Q.2.2.2 ∧ μ2 355 20 = b + t2 ∧ μ2 355 22 = evB live br (m2 W) ∧ FE μ μ2 ∧ k = Q.2.2.2 - t2 ∧ pCat cc (pLoop Q.1 oSum false pp f m2 t2 l2 (w + cc.length)) = (t1, some (l1, m, c))) (Q.2.2.2 - t2) ⟨t2, l2, 400, m2, c2, vx 0, vx 0, vx 0, rfl, e2, by omega, hg1.2.2.2.1, hg1.2.1, e3, e4, e5, rfl, hR⟩ ?_
  clear hR e2 e3 e4 e5 hg1 e1
  clear t2 l2 m2 c2 μ1
  rintro k ρ μ2 ⟨t2, l2, f, m2, cc, x4, x5, x6, rfl, hV, hf, hl2, ht2, hgo, hB, hF, rfl, hR⟩
  have h2 := Ev_c h hF
  have hc := Ev_code hQ h2 hgo
  (try simp only [zit_e, Bool.and_eq_true, Bool.or_eq_true, Bool.not_eq_true', Bool.and_eq_false_iff, Bool.or_eq_false_iff, Bool.not_eq_false', zbe, zdt, zdf, zb2_p, zbp_0, zbp_1, zbp_inj, zbp_01, Bool.true_eq_false, Bool.false_eq_true, true_and, and_true, Decidable.not_not, Classical.not_not, implies_true, List.nil_append, List.cons_append, List.append_assoc, Option.some.injEq, Sum.inl.injEq, zSw_c, zSw_n]); (try simp only [zit_e, Bool.and_eq_true, Bool.or_eq_true, Bool.not_eq_true', Bool.and_eq_false_iff, Bool.or_eq_false_iff, Bool.not_eq_false', zbe, zdt, zdf, zb2_p, zbp_0, zbp_1, zbp_inj, zbp_01, Bool.true_eq_false, Bool.false_eq_true, true_and, and_true, Decidable.not_not, Classical.not_not, implies_true, List.nil_append, List.cons_append, List.append_assoc, Option.some.injEq, Sum.inl.injEq, zSw_c, zSw_n, zc_355, f_M_sign, g_M_sign, f_M_codeAt, g_M_codeAt]); (try simp only [zi_cs, zi_c0, zii_cs, zii_c0, zl_cs, zl_c0, zll_cs, zll_c0, zr_cs, zr_c0, zrr_cs, zrr_c0, zxs_cs, zxs_c0, zxx_cs, zxx_c0, zfree_c0, zfree_c1, zfree_cs, zfree_cz, zlong_i, zlong_r, zlong_x, zset_0, zset_s, true_and, and_true, Option.some.injEq, Sum.inl.injEq, Sum.inr.injEq, zb2_p, zbp_0, zbp_1, zbp_inj, zbp_01, Nat.zero_add, Nat.reduceAdd, implies_true, List.nil_append, List.cons_append, List.append_assoc, Int.not_lt, Int.not_le, Decidable.not_not, Int.zero_add, Int.reduceLE, Int.reduceLT, Int.reduceEq, Int.reduceNe, Int.reduceAdd, Int.reduceSub, Int.reduceMul, Int.reduceNeg, Int.reduceToNat, Nat.reduceMul, Nat.reduceLT, Nat.reduceEqDiff, and_self, ite_true, ite_false, zx1, zx2, zRecv, List.length_cons, List.length_nil, ne_eq, not_true_eq_false, not_false_eq_true, true_or, or_true, or_false, false_or, and_false, false_and, zf01, zf10, reduceCtorEq, zSw_c, zSw_n, zm_r, zit_T, zit_F, false_implies, true_implies, zc_355, f_M_sign, g_M_sign, f_M_codeAt, g_M_codeAt])
  rw [hc.2]
  have hN0 := h.1.2.2
  refine ⟨⟨by omega, fun _ => by omega⟩, ?_⟩
  refine zif (fun c0 => ?_) (fun c0 => ?_)
  · have hop : ¬ oSum (Q.1 t2) = 0 := by
      unfold oSum
      rcases c0 with c0 | c0 <;> rw [c0] <;> decide
    have hop4 : oSum (Q.1 t2) ≠ 5 ∧ oSum (Q.1 t2) ≠ 4 := by
      unfold oSum
      rcases c0 with c0 | c0 <;> rw [c0] <;> decide
    have htn : t2 < Q.2.2.2 := zNlt (c := Q.1) hQ.2.1 (by omega)
    obtain ⟨g, rfl⟩ : ∃ g, f = g + 1 := ⟨f - 1, by omega⟩
    refine ⟨hc.1, zI_s (by omega) (by omega), ?_⟩
    rcases e1 : pp (t2 + 1) l2 (w + cc.length) with ⟨t3, _ | ⟨l3, m3, c3⟩⟩
    · rw [pLoop_n hop e1] at hR
      cases hR
    rw [pLoop_s hop e1, pCat_cat] at hR
    have hg1 := (hG (t2 + 1) l2 (w + cc.length) hl2 htn).2 _ _ _ _ e1
    have hBr : evB live br (m2 W) = 0 ∨ evB live br (m2 W) = 1 := by
      unfold evB
      split <;> omega
    refine zCw.use (hp _ live (evB live br (m2 W)) (t2 + 1) l2 (w + cc.length) t3 l3 m3 c3 hlv hBr (Ev_c h2 (FE_zm (Or.inl rfl))) (by rw [zm_s]; omega) (by rw [zm_j (by decide)]; exact hB) hl2 htn e1) hdp (fun r μ4 e => ?_)
    obtain ⟨rfl, v2, v3, v4, v5⟩ := e
    refine ⟨_, rfl, ?_⟩
    have hk := ev_sum (E1 := m2 W) (E2 := m3 W) hlv hbr c0
    have hB2 : evB live (evB live br (m2 W)) (m3 W) = 0 ∨ evB live (evB live br (m2 W)) (m3 W) = 1 := by
      unfold evB
      split <;> omega
    have L : ∀ {x : Int}, -2000000000000000000 ≤ x → x ≤ 2000000000000000000 → zL x := fun p q => ⟨by omega, by omega⟩
    have F4 : FE μ μ4 := (hF.tr (FE_zm (Or.inl rfl))).tr v5
    rw [← mOp_E hop4.1 hop4.2] at hk
    have fin : ∀ {x60 x6 x7 : zV} {μ5 : zMem}, μ5 355 22 = evB live br (mOp (oSum (Q.1 t2)) m2 m3 W) → μ5 355 20 = b + t3 → FE μ μ5 → (-1000000000 ≤ evV live br (mOp (oSum (Q.1 t2)) m2 m3 W) ∧ evV live br (mOp (oSum (Q.1 t2)) m2 m3 W) ≤ 1000000000) → ∃ m', m' < Q.2.2.2 - t2 ∧ ∃ (t4 l2 f : Nat) (m4 : Mn) (cc : List Int) (x4 x5 x8 : zV), [vr 355, vi live, vl (evV live br (mOp (oSum (Q.1 t2)) m2 m3 W)), vx 0, x60, x6, x7] = [vr 355, vi live, vl (evV live br (m4 W)), vx 0, x4, x5, x8] ∧ (-1000000000 ≤ evV live br (m4 W) ∧ evV live br (m4 W) ≤ 1000000000) ∧ Q.2.2.2 ≤ t4 + f ∧ l2 ≤ 50 ∧ t4 ≤ Q.2.2.2 ∧ μ5 355 20 = b + t4 ∧ μ5 355 22 = evB live br (m4 W) ∧ FE μ μ5 ∧ m' = Q.2.2.2 - t4 ∧ pCat cc (pLoop Q.1 oSum false pp f m4 t4 l2 (w + cc.length)) = (t1, some (l1, m, c)) := by
      intro x60 x6 x7 μ5 b1 b2 b3 b4
      refine ⟨_, (show Q.2.2.2 - t3 < Q.2.2.2 - t2 by omega), t3, l3, g, mOp (oSum (Q.1 t2)) m2 m3, cc ++ (c3 ++ [oSum (Q.1 t2) * 4096]), _, _, _, rfl, b4, by omega, hg1.2.2.2.1, hg1.2.1, b2, b1, b3, rfl, ?_⟩
      rw [← hR]
      simp only [List.length_append, List.length_cons, List.length_nil, Bool.false_eq_true, if_false]
      congr 2
      omega
    refine ⟨⟨fun _ => L (by omega) (by omega), fun _ => L (by omega) (by omega)⟩, ?_⟩
    refine bo_w (E3 := mOp (oSum (Q.1 t2)) m2 m3 W) (br := br) (by omega) hlv ?_ ?_ (fun μ5 b1 b2 b3 b4 => ⟨_, rfl, fin b1 (b2.trans v3) (F4.tr b3) b4⟩)
    · rw [v4]
      exact hB2
    · rw [v4]
      simp only [zit_e] at hk
      exact hk
  · have hop : oSum (Q.1 t2) = 0 := by
      unfold oSum
      rw [if_neg (by omega), if_neg (by omega)]
    rw [pLoop_0 hop] at hR
    cases hR
    exact ⟨rfl, hV, hgo, hB, hF⟩

