/-! the reference's tests between words, gone along -/
theorem evB_d {live br : Int} {E : Option Int} (h : live = 0 ∨ ¬ br = 0) : evB live br E = br := (evV_d h).2
theorem ev_and {live br x x' : Int} {E1 E2 : Option Int} (hl : live = 0 ∨ live = 1) (hb : br = 0 ∨ br = 1) (hx : x = 0 ∨ x = 1) (hx' : x' = 0 ∨ x' = 1) (hV : live = 1 → br = 0 → ∀ y, E1 = some y → y = x) (hV' : zbp (¬ live = 0 ∧ ¬ x = 0) = 1 → evB live br E1 = 0 → ∀ y, E2 = some y → y = x') : evB (zbp (¬ live = 0 ∧ ¬ x = 0)) (evB live br E1) E2 = evB live br (ob E1 (fun a => if a = 0 then some a else E2)) ∧ (live = 1 → br = 0 → ∀ y, ob E1 (fun a => if a = 0 then some a else E2) = some y → y = zbp (¬ x = 0 ∧ ¬ x' = 0)) := by
  by_cases hd : live = 0 ∨ ¬ br = 0
  · rw [evB_d hd, evB_d hd]
    refine ⟨evB_d ?_, fun q1 q2 => by omega⟩
    by_cases c : live = 0
    · left
      exact zbf (fun q => q.1 c)
    · right
      omega
  have hv : live = 1 ∧ br = 0 := by omega
  rcases E1 with _ | a
  · rw [(evV_n hv rfl).2, ob_n, (evV_n hv rfl).2]
    exact ⟨evB_d (Or.inr (by decide)), fun _ _ y q => by cases q⟩
  have ha := hV hv.1 hv.2 a rfl
  subst ha
  rw [(evV_s hv rfl).2] at hV' ⊢
  rw [ob_s]
  by_cases c : a = 0
  · rw [if_pos c, zbf (fun q => q.2 c), (evV_s hv rfl).2, evB_d (Or.inl rfl)]
    refine ⟨rfl, fun _ _ y q => ?_⟩
    cases q
    rw [zbf (fun q => q.1 c), c]
  · have t : (¬ live = 0 ∧ ¬ a = 0) := by omega
    rw [zbt t] at hV' ⊢
    rw [if_neg c, hv.1, hv.2]
    refine ⟨rfl, fun _ _ y q => ?_⟩
    have := hV' rfl rfl y q
    unfold zbp
    split <;> omega
theorem ev_or {live br x x' : Int} {E1 E2 : Option Int} (hl : live = 0 ∨ live = 1) (hb : br = 0 ∨ br = 1) (hx : x = 0 ∨ x = 1) (hx' : x' = 0 ∨ x' = 1) (hV : live = 1 → br = 0 → ∀ y, E1 = some y → y = x) (hV' : zbp (¬ live = 0 ∧ x = 0) = 1 → evB live br E1 = 0 → ∀ y, E2 = some y → y = x') : evB (zbp (¬ live = 0 ∧ x = 0)) (evB live br E1) E2 = evB live br (ob E1 (fun a => if a = 0 then E2 else some a)) ∧ (live = 1 → br = 0 → ∀ y, ob E1 (fun a => if a = 0 then E2 else some a) = some y → y = zbp (¬ x = 0 ∨ ¬ x' = 0)) := by
  by_cases hd : live = 0 ∨ ¬ br = 0
  · rw [evB_d hd, evB_d hd]
    refine ⟨evB_d ?_, fun q1 q2 => by omega⟩
    by_cases c : live = 0
    · left
      exact zbf (fun q => q.1 c)
    · right
      omega
  have hv : live = 1 ∧ br = 0 := by omega
  rcases E1 with _ | a
  · rw [(evV_n hv rfl).2, ob_n, (evV_n hv rfl).2]
    exact ⟨evB_d (Or.inr (by decide)), fun _ _ y q => by cases q⟩
  have ha := hV hv.1 hv.2 a rfl
  subst ha
  rw [(evV_s hv rfl).2] at hV' ⊢
  rw [ob_s]
  by_cases c : a = 0
  · have t : (¬ live = 0 ∧ a = 0) := by omega
    rw [zbt t] at hV' ⊢
    rw [if_pos c, hv.1, hv.2]
    refine ⟨rfl, fun _ _ y q => ?_⟩
    have := hV' rfl rfl y q
    unfold zbp
    split <;> omega
  · rw [if_neg c, zbf (fun q => c q.2), (evV_s hv rfl).2, evB_d (Or.inl rfl)]
    refine ⟨rfl, fun _ _ y q => ?_⟩
    cases q
    rw [zbt (Or.inl c)]
    omega
theorem q_M_bothOf {d dp : Nat} (hd : 4 ≤ d) (hdp : dp + 1 ≤ d) {Q : zTk} {o : Bool} {b : Int} {W : Int → Int} {pp : Pr} (hQ : okK Q) (hG : PG Q.1 Q.2.2.2 pp) (hp : ECT ETs dp y_M_plainOf Q o b W pp) : ECT ETs d y_M_bothOf Q o b W (pRow Q.1 oBoth true pp) := by
  intro μ live br t l w t1 l1 m c hlv hbr h hg h22 hl ht hR
  refine zSp.ss [vr 355, vi live, vx 0, vx 0] rfl (w_M_bothOf (Nat.le_trans (by decide) hd)) rfl rfl ?_
  (try simp only [zit_e, Bool.and_eq_true, Bool.or_eq_true, Bool.not_eq_true', Bool.and_eq_false_iff, Bool.or_eq_false_iff, Bool.not_eq_false', zbe, zdt, zdf, zb2_p, zbp_0, zbp_1, zbp_inj, zbp_01, Bool.true_eq_false, Bool.false_eq_true, true_and, and_true, Decidable.not_not, Classical.not_not, implies_true, List.nil_append, List.cons_append, List.append_assoc, Option.some.injEq, Sum.inl.injEq, zSw_c, zSw_n]); (try simp only [zit_e, Bool.and_eq_true, Bool.or_eq_true, Bool.not_eq_true', Bool.and_eq_false_iff, Bool.or_eq_false_iff, Bool.not_eq_false', zbe, zdt, zdf, zb2_p, zbp_0, zbp_1, zbp_inj, zbp_01, Bool.true_eq_false, Bool.false_eq_true, true_and, and_true, Decidable.not_not, Classical.not_not, implies_true, List.nil_append, List.cons_append, List.append_assoc, Option.some.injEq, Sum.inl.injEq, zSw_c, zSw_n, zc_355, f_M_sign, g_M_sign, f_M_codeAt, g_M_codeAt]); (try simp only [zi_cs, zi_c0, zii_cs, zii_c0, zl_cs, zl_c0, zll_cs, zll_c0, zr_cs, zr_c0, zrr_cs, zrr_c0, zxs_cs, zxs_c0, zxx_cs, zxx_c0, zfree_c0, zfree_c1, zfree_cs, zfree_cz, zlong_i, zlong_r, zlong_x, zset_0, zset_s, true_and, and_true, Option.some.injEq, Sum.inl.injEq, Sum.inr.injEq, zb2_p, zbp_0, zbp_1, zbp_inj, zbp_01, Nat.zero_add, Nat.reduceAdd, implies_true, List.nil_append, List.cons_append, List.append_assoc, Int.not_lt, Int.not_le, Decidable.not_not, Int.zero_add, Int.reduceLE, Int.reduceLT, Int.reduceEq, Int.reduceNe, Int.reduceAdd, Int.reduceSub, Int.reduceMul, Int.reduceNeg, Int.reduceToNat, Nat.reduceMul, Nat.reduceLT, Nat.reduceEqDiff, and_self, ite_true, ite_false, zx1, zx2, zRecv, List.length_cons, List.length_nil, ne_eq, not_true_eq_false, not_false_eq_true, true_or, or_true, or_false, false_or, and_false, false_and, zf01, zf10, reduceCtorEq, zSw_c, zSw_n, zm_r, zit_T, zit_F, false_implies, true_implies, zc_355, f_M_sign, g_M_sign, f_M_codeAt, g_M_codeAt])
  rcases e1 : pp t l w with ⟨t2, _ | ⟨l2, m2, c2⟩⟩
  · rw [pRow_n e1] at hR
    cases hR
  rw [pRow_s e1] at hR
  refine zCw.use (hp μ live br t l w t2 l2 m2 c2 hlv hbr h hg h22 hl ht e1) hdp (fun r μ1 e => ?_)
  obtain ⟨x, rfl, hx, e2, e3, e4, e5⟩ := e
  refine ⟨_, rfl, ?_⟩
  have hg1 := (hG t l w hl ht).2 _ _ _ _ e1
  have hN4 := hQ.1
  refine zLoop.mk (fun k ρ μ2 => ∃ (t2 l2 f : Nat) (m2 : Mn) (cc : List Int) (x : Int) (x4 : zV), ρ = [vr 355, vi live, vi x, x4] ∧ (x = 0 ∨ x = 1) ∧ (live = 1 → br = 0 → ∀ y, m2 W = some y → y = x) ∧ Q.2.2.2 ≤ t2 + f ∧ l2 ≤ 50 ∧ t2 ≤ Q.2.2.2 ∧ μ2 355 20 = b + t2 ∧ μ2 355 22 = evB live br (m2 W) ∧ FE μ μ2 ∧ k = Q.2.2.2 - t2 ∧ pCat cc (pLoop Q.1 oBoth true pp f m2 t2 l2 (w + cc.length)) = (t1, some (l1, m, c))) (Q.2.2.2 - t2) ⟨t2, l2, 400, m2, c2, x, vx 0, rfl, hx, e2, by omega, hg1.2.2.2.1, hg1.2.1, e3, e4, e5, rfl, hR⟩ ?_
  clear hR e2 e3 e4 e5 hg1 e1 hx x
  clear t2 l2 m2 c2 μ1
  rintro k ρ μ2 ⟨t2, l2, f, m2, cc, x, x4, rfl, hx, hV, hf, hl2, ht2, hgo, hB, hF, rfl, hR⟩
  have h2 := Ev_c h hF
  (try simp only [zit_e, Bool.and_eq_true, Bool.or_eq_true, Bool.not_eq_true', Bool.and_eq_false_iff, Bool.or_eq_false_iff, Bool.not_eq_false', zbe, zdt, zdf, zb2_p, zbp_0, zbp_1, zbp_inj, zbp_01, Bool.true_eq_false, Bool.false_eq_true, true_and, and_true, Decidable.not_not, Classical.not_not, implies_true, List.nil_append, List.cons_append, List.append_assoc, Option.some.injEq, Sum.inl.injEq, zSw_c, zSw_n]); (try simp only [zit_e, Bool.and_eq_true, Bool.or_eq_true, Bool.not_eq_true', Bool.and_eq_false_iff, Bool.or_eq_false_iff, Bool.not_eq_false', zbe, zdt, zdf, zb2_p, zbp_0, zbp_1, zbp_inj, zbp_01, Bool.true_eq_false, Bool.false_eq_true, true_and, and_true, Decidable.not_not, Classical.not_not, implies_true, List.nil_append, List.cons_append, List.append_assoc, Option.some.injEq, Sum.inl.injEq, zSw_c, zSw_n, zc_355, f_M_sign, g_M_sign, f_M_codeAt, g_M_codeAt]); (try simp only [zi_cs, zi_c0, zii_cs, zii_c0, zl_cs, zl_c0, zll_cs, zll_c0, zr_cs, zr_c0, zrr_cs, zrr_c0, zxs_cs, zxs_c0, zxx_cs, zxx_c0, zfree_c0, zfree_c1, zfree_cs, zfree_cz, zlong_i, zlong_r, zlong_x, zset_0, zset_s, true_and, and_true, Option.some.injEq, Sum.inl.injEq, Sum.inr.injEq, zb2_p, zbp_0, zbp_1, zbp_inj, zbp_01, Nat.zero_add, Nat.reduceAdd, implies_true, List.nil_append, List.cons_append, List.append_assoc, Int.not_lt, Int.not_le, Decidable.not_not, Int.zero_add, Int.reduceLE, Int.reduceLT, Int.reduceEq, Int.reduceNe, Int.reduceAdd, Int.reduceSub, Int.reduceMul, Int.reduceNeg, Int.reduceToNat, Nat.reduceMul, Nat.reduceLT, Nat.reduceEqDiff, and_self, ite_true, ite_false, zx1, zx2, zRecv, List.length_cons, List.length_nil, ne_eq, not_true_eq_false, not_false_eq_true, true_or, or_true, or_false, false_or, and_false, false_and, zf01, zf10, reduceCtorEq, zSw_c, zSw_n, zm_r, zit_T, zit_F, false_implies, true_implies, zc_355, f_M_sign, g_M_sign, f_M_codeAt, g_M_codeAt])
  refine ep_w (by omega) hQ h2 hgo ht2 (by decide) (fun c0 htn μ3 a1 a2 a3 a4 => ⟨_, rfl, ?_⟩) (fun c0 => ⟨_, rfl, ?_⟩)
  · rw [if_pos (by decide)]
    have hop : ¬ oBoth (Q.1 t2) = 0 := by
      unfold oBoth
      rw [c0]
      decide
    have hm : ∀ m3 : Mn, mOp (oBoth (Q.1 t2)) m2 m3 W = ob (m2 W) (fun a => if a = 0 then some a else m3 W) := by
      intro m3
      unfold mOp oBoth
      rw [c0]
      rfl
    obtain ⟨g, rfl⟩ : ∃ g, f = g + 1 := ⟨f - 1, by omega⟩
    rcases e1 : pp (t2 + 1) l2 (w + cc.length + 1) with ⟨t3, _ | ⟨l3, m3, c3⟩⟩
    · rw [pLoop_n hop e1] at hR
      cases hR
    rw [pLoop_s hop e1, pCat_cat] at hR
    have hg1 := (hG (t2 + 1) l2 (w + cc.length + 1) hl2 htn).2 _ _ _ _ e1
    have hBr : evB live br (m2 W) = 0 ∨ evB live br (m2 W) = 1 := by
      unfold evB
      split <;> omega
    have hlv' : zbp (¬ live = 0 ∧ ¬ x = 0) = 0 ∨ zbp (¬ live = 0 ∧ ¬ x = 0) = 1 := by
      unfold zbp
      split <;> omega
    refine zCw.use (hp μ3 (zbp (¬ live = 0 ∧ ¬ x = 0)) (evB live br (m2 W)) (t2 + 1) l2 (w + cc.length + 1) t3 l3 m3 c3 hlv' hBr a1 a2 (a3.trans hB) hl2 htn e1) hdp (fun r μ4 e => ?_)
    obtain ⟨x', rfl, hx', v2, v3, v4, v5⟩ := e
    have hk := ev_and hlv hbr hx hx' hV v2
    rw [← hm m3] at hk
    refine ⟨_, rfl, _, (show Q.2.2.2 - t3 < Q.2.2.2 - t2 by omega), t3, l3, g, mOp (oBoth (Q.1 t2)) m2 m3, cc ++ ((oBoth (Q.1 t2) * 4096 + ((w + cc.length + c3.length + 1 : Nat) : Int)) :: c3), _, _, rfl, ?_, hk.2, by omega, hg1.2.2.2.1, hg1.2.1, v3, v4.trans hk.1, (hF.tr a4).tr v5, rfl, ?_⟩
    · unfold zbp
      split <;> omega
    · rw [← hR]
      simp only [List.length_append, List.length_cons, List.length_nil, if_true]
      congr 2
      omega
  · have hop : oBoth (Q.1 t2) = 0 := by
      unfold oBoth
      rw [if_neg c0]
    rw [pLoop_0 hop] at hR
    cases hR
    rw [if_neg (by decide)]
    exact ⟨hx, x, rfl, hx, hV, hgo, hB, hF⟩
theorem q_M_testOf {d dp : Nat} (hd : 4 ≤ d) (hdp : dp + 1 ≤ d) {Q : zTk} {o : Bool} {b : Int} {W : Int → Int} {pp : Pr} (hQ : okK Q) (hG : PG Q.1 Q.2.2.2 pp) (hp : ECT ETs dp y_M_bothOf Q o b W pp) : ECT ETs d y_M_testOf Q o b W (pRow Q.1 oTest true pp) := by
  intro μ live br t l w t1 l1 m c hlv hbr h hg h22 hl ht hR
  refine zSp.ss [vr 355, vi live, vx 0, vx 0] rfl (w_M_testOf (Nat.le_trans (by decide) hd)) rfl rfl ?_
  (try simp only [zit_e, Bool.and_eq_true, Bool.or_eq_true, Bool.not_eq_true', Bool.and_eq_false_iff, Bool.or_eq_false_iff, Bool.not_eq_false', zbe, zdt, zdf, zb2_p, zbp_0, zbp_1, zbp_inj, zbp_01, Bool.true_eq_false, Bool.false_eq_true, true_and, and_true, Decidable.not_not, Classical.not_not, implies_true, List.nil_append, List.cons_append, List.append_assoc, Option.some.injEq, Sum.inl.injEq, zSw_c, zSw_n]); (try simp only [zit_e, Bool.and_eq_true, Bool.or_eq_true, Bool.not_eq_true', Bool.and_eq_false_iff, Bool.or_eq_false_iff, Bool.not_eq_false', zbe, zdt, zdf, zb2_p, zbp_0, zbp_1, zbp_inj, zbp_01, Bool.true_eq_false, Bool.false_eq_true, true_and, and_true, Decidable.not_not, Classical.not_not, implies_true, List.nil_append, List.cons_append, List.append_assoc, Option.some.injEq, Sum.inl.injEq, zSw_c, zSw_n, zc_355, f_M_sign, g_M_sign, f_M_codeAt, g_M_codeAt]); (try simp only [zi_cs, zi_c0, zii_cs, zii_c0, zl_cs, zl_c0, zll_cs, zll_c0, zr_cs, zr_c0, zrr_cs, zrr_c0, zxs_cs, zxs_c0, zxx_cs, zxx_c0, zfree_c0, zfree_c1, zfree_cs, zfree_cz, zlong_i, zlong_r, zlong_x, zset_0, zset_s, true_and, and_true, Option.some.injEq, Sum.inl.injEq, Sum.inr.injEq, zb2_p, zbp_0, zbp_1, zbp_inj, zbp_01, Nat.zero_add, Nat.reduceAdd, implies_true, List.nil_append, List.cons_append, List.append_assoc, Int.not_lt, Int.not_le, Decidable.not_not, Int.zero_add, Int.reduceLE, Int.reduceLT, Int.reduceEq, Int.reduceNe, Int.reduceAdd, Int.reduceSub, Int.reduceMul, Int.reduceNeg, Int.reduceToNat, Nat.reduceMul, Nat.reduceLT, Nat.reduceEqDiff, and_self, ite_true, ite_false, zx1, zx2, zRecv, List.length_cons, List.length_nil, ne_eq, not_true_eq_false, not_false_eq_true, true_or, or_true, or_false, false_or, and_false, false_and, zf01, zf10, reduceCtorEq, zSw_c, zSw_n, zm_r, zit_T, zit_F, false_implies, true_implies, zc_355, f_M_sign, g_M_sign, f_M_codeAt, g_M_codeAt])
  rcases e1 : pp t l w with ⟨t2, _ | ⟨l2, m2, c2⟩⟩
  · rw [pRow_n e1] at hR
    cases hR
  rw [pRow_s e1] at hR
  refine zCw.use (hp μ live br t l w t2 l2 m2 c2 hlv hbr h hg h22 hl ht e1) hdp (fun r μ1 e => ?_)
  obtain ⟨x, rfl, hx, e2, e3, e4, e5⟩ := e
  refine ⟨_, rfl, ?_⟩
  have hg1 := (hG t l w hl ht).2 _ _ _ _ e1
  have hN4 := hQ.1
  refine zLoop.mk (fun k ρ μ2 => ∃ (t2 l2 f : Nat) (m2 : Mn) (cc : List Int) (x : Int) (x4 : zV), ρ = [vr 355, vi live, vi x, x4] ∧ (x = 0 ∨ x = 1) ∧ (live = 1 → br = 0 → ∀ y, m2 W = some y → y = x) ∧ Q.2.2.2 ≤ t2 + f ∧ l2 ≤ 50 ∧ t2 ≤ Q.2.2.2 ∧ μ2 355 20 = b + t2 ∧ μ2 355 22 = evB live br (m2 W) ∧ FE μ μ2 ∧ k = Q.2.2.2 - t2 ∧ pCat cc (pLoop Q.1 oTest true pp f m2 t2 l2 (w + cc.length)) = (t1, some (l1, m, c))) (Q.2.2.2 - t2) ⟨t2, l2, 400, m2, c2, x, vx 0, rfl, hx, e2, by omega, hg1.2.2.2.1, hg1.2.1, e3, e4, e5, rfl, hR⟩ ?_
  clear hR e2 e3 e4 e5 hg1 e1 hx x
  clear t2 l2 m2 c2 μ1
  rintro k ρ μ2 ⟨t2, l2, f, m2, cc, x, x4, rfl, hx, hV, hf, hl2, ht2, hgo, hB, hF, rfl, hR⟩
  have h2 := Ev_c h hF
  (try simp only [zit_e, Bool.and_eq_true, Bool.or_eq_true, Bool.not_eq_true', Bool.and_eq_false_iff, Bool.or_eq_false_iff, Bool.not_eq_false', zbe, zdt, zdf, zb2_p, zbp_0, zbp_1, zbp_inj, zbp_01, Bool.true_eq_false, Bool.false_eq_true, true_and, and_true, Decidable.not_not, Classical.not_not, implies_true, List.nil_append, List.cons_append, List.append_assoc, Option.some.injEq, Sum.inl.injEq, zSw_c, zSw_n]); (try simp only [zit_e, Bool.and_eq_true, Bool.or_eq_true, Bool.not_eq_true', Bool.and_eq_false_iff, Bool.or_eq_false_iff, Bool.not_eq_false', zbe, zdt, zdf, zb2_p, zbp_0, zbp_1, zbp_inj, zbp_01, Bool.true_eq_false, Bool.false_eq_true, true_and, and_true, Decidable.not_not, Classical.not_not, implies_true, List.nil_append, List.cons_append, List.append_assoc, Option.some.injEq, Sum.inl.injEq, zSw_c, zSw_n, zc_355, f_M_sign, g_M_sign, f_M_codeAt, g_M_codeAt]); (try simp only [zi_cs, zi_c0, zii_cs, zii_c0, zl_cs, zl_c0, zll_cs, zll_c0, zr_cs, zr_c0, zrr_cs, zrr_c0, zxs_cs, zxs_c0, zxx_cs, zxx_c0, zfree_c0, zfree_c1, zfree_cs, zfree_cz, zlong_i, zlong_r, zlong_x, zset_0, zset_s, true_and, and_true, Option.some.injEq, Sum.inl.injEq, Sum.inr.injEq, zb2_p, zbp_0, zbp_1, zbp_inj, zbp_01, Nat.zero_add, Nat.reduceAdd, implies_true, List.nil_append, List.cons_append, List.append_assoc, Int.not_lt, Int.not_le, Decidable.not_not, Int.zero_add, Int.reduceLE, Int.reduceLT, Int.reduceEq, Int.reduceNe, Int.reduceAdd, Int.reduceSub, Int.reduceMul, Int.reduceNeg, Int.reduceToNat, Nat.reduceMul, Nat.reduceLT, Nat.reduceEqDiff, and_self, ite_true, ite_false, zx1, zx2, zRecv, List.length_cons, List.length_nil, ne_eq, not_true_eq_false, not_false_eq_true, true_or, or_true, or_false, false_or, and_false, false_and, zf01, zf10, reduceCtorEq, zSw_c, zSw_n, zm_r, zit_T, zit_F, false_implies, true_implies, zc_355, f_M_sign, g_M_sign, f_M_codeAt, g_M_codeAt])
  refine ep_w (by omega) hQ h2 hgo ht2 (by decide) (fun c0 htn μ3 a1 a2 a3 a4 => ⟨_, rfl, ?_⟩) (fun c0 => ⟨_, rfl, ?_⟩)
  · rw [if_pos (by decide)]
    have hop : ¬ oTest (Q.1 t2) = 0 := by
      unfold oTest
      rw [c0]
      decide
    have hm : ∀ m3 : Mn, mOp (oTest (Q.1 t2)) m2 m3 W = ob (m2 W) (fun a => if a = 0 then m3 W else some a) := by
      intro m3
      unfold mOp oTest
      rw [c0]
      rfl
    obtain ⟨g, rfl⟩ : ∃ g, f = g + 1 := ⟨f - 1, by omega⟩
    rcases e1 : pp (t2 + 1) l2 (w + cc.length + 1) with ⟨t3, _ | ⟨l3, m3, c3⟩⟩
    · rw [pLoop_n hop e1] at hR
      cases hR
    rw [pLoop_s hop e1, pCat_cat] at hR
    have hg1 := (hG (t2 + 1) l2 (w + cc.length + 1) hl2 htn).2 _ _ _ _ e1
    have hBr : evB live br (m2 W) = 0 ∨ evB live br (m2 W) = 1 := by
      unfold evB
      split <;> omega
    have hlv' : zbp (¬ live = 0 ∧ x = 0) = 0 ∨ zbp (¬ live = 0 ∧ x = 0) = 1 := by
      unfold zbp
      split <;> omega
    refine zCw.use (hp μ3 (zbp (¬ live = 0 ∧ x = 0)) (evB live br (m2 W)) (t2 + 1) l2 (w + cc.length + 1) t3 l3 m3 c3 hlv' hBr a1 a2 (a3.trans hB) hl2 htn e1) hdp (fun r μ4 e => ?_)
    obtain ⟨x', rfl, hx', v2, v3, v4, v5⟩ := e
    have hk := ev_or hlv hbr hx hx' hV v2
    rw [← hm m3] at hk
    refine ⟨_, rfl, _, (show Q.2.2.2 - t3 < Q.2.2.2 - t2 by omega), t3, l3, g, mOp (oTest (Q.1 t2)) m2 m3, cc ++ ((oTest (Q.1 t2) * 4096 + ((w + cc.length + c3.length + 1 : Nat) : Int)) :: c3), _, _, rfl, ?_, hk.2, by omega, hg1.2.2.2.1, hg1.2.1, v3, v4.trans hk.1, (hF.tr a4).tr v5, rfl, ?_⟩
    · unfold zbp
      split <;> omega
    · rw [← hR]
      simp only [List.length_append, List.length_cons, List.length_nil, if_true]
      congr 2
      omega
  · have hop : oTest (Q.1 t2) = 0 := by
      unfold oTest
      rw [if_neg c0]
    rw [pLoop_0 hop] at hR
    cases hR
    rw [if_neg (by decide)]
    exact ⟨hx, x, rfl, hx, hV, hgo, hB, hF⟩

