/-! the reference's plain tests, gone along -/
theorem evB_not {live br : Int} {E : Option Int} : evB live br (ob E (fun a => some (1 - a))) = evB live br E := by
  cases E <;> unfold evB ob
  · rfl
  · rw [if_neg (fun q => by cases q.2.2), if_neg (fun q => by cases q.2.2)]
theorem q_M_plainOf {d dp : Nat} (hd : 4 ≤ d) (hdp : dp + 1 ≤ d) {Q : zTk} {o : Bool} {b : Int} {W : Int → Int} {S : Pr} {T : Option Pr} (hQ : okK Q) (hp : ECT ETs dp y_M_positiveOf Q o b W (pPos Q.1 S T)) : ECT ETs d y_M_plainOf Q o b W (pPlain Q.1 S T) := by
  intro μ live br t l w t1 l1 m c hlv hbr h hg h22 hl ht hR
  refine zSp.ss [vr 355, vi live, vx 0] rfl (w_M_plainOf (Nat.le_trans (by decide) hd)) rfl rfl ?_
  (try simp only [zit_e, Bool.and_eq_true, Bool.or_eq_true, Bool.not_eq_true', Bool.and_eq_false_iff, Bool.or_eq_false_iff, Bool.not_eq_false', zbe, zdt, zdf, zb2_p, zbp_0, zbp_1, zbp_inj, zbp_01, Bool.true_eq_false, Bool.false_eq_true, true_and, and_true, Decidable.not_not, Classical.not_not, implies_true, List.nil_append, List.cons_append, List.append_assoc, Option.some.injEq, Sum.inl.injEq, zSw_c, zSw_n]); (try simp only [zit_e, Bool.and_eq_true, Bool.or_eq_true, Bool.not_eq_true', Bool.and_eq_false_iff, Bool.or_eq_false_iff, Bool.not_eq_false', zbe, zdt, zdf, zb2_p, zbp_0, zbp_1, zbp_inj, zbp_01, Bool.true_eq_false, Bool.false_eq_true, true_and, and_true, Decidable.not_not, Classical.not_not, implies_true, List.nil_append, List.cons_append, List.append_assoc, Option.some.injEq, Sum.inl.injEq, zSw_c, zSw_n, zc_355, f_M_sign, g_M_sign, f_M_codeAt, g_M_codeAt]); (try simp only [zi_cs, zi_c0, zii_cs, zii_c0, zl_cs, zl_c0, zll_cs, zll_c0, zr_cs, zr_c0, zrr_cs, zrr_c0, zxs_cs, zxs_c0, zxx_cs, zxx_c0, zfree_c0, zfree_c1, zfree_cs, zfree_cz, zlong_i, zlong_r, zlong_x, zset_0, zset_s, true_and, and_true, Option.some.injEq, Sum.inl.injEq, Sum.inr.injEq, zb2_p, zbp_0, zbp_1, zbp_inj, zbp_01, Nat.zero_add, Nat.reduceAdd, implies_true, List.nil_append, List.cons_append, List.append_assoc, Int.not_lt, Int.not_le, Decidable.not_not, Int.zero_add, Int.reduceLE, Int.reduceLT, Int.reduceEq, Int.reduceNe, Int.reduceAdd, Int.reduceSub, Int.reduceMul, Int.reduceNeg, Int.reduceToNat, Nat.reduceMul, Nat.reduceLT, Nat.reduceEqDiff, and_self, ite_true, ite_false, zx1, zx2, zRecv, List.length_cons, List.length_nil, ne_eq, not_true_eq_false, not_false_eq_true, true_or, or_true, or_false, false_or, and_false, false_and, zf01, zf10, reduceCtorEq, zSw_c, zSw_n, zm_r, zit_T, zit_F, false_implies, true_implies, zc_355, f_M_sign, g_M_sign, f_M_codeAt, g_M_codeAt])
  unfold pPlain at hR
  refine zLoop.mk (fun k ρ μ2 => ∃ j : Nat, ρ = [vr 355, vi live, vi ((j : Int) % 2)] ∧ Ev Q o b W μ2 ∧ μ2 355 20 = b + (t + j : Nat) ∧ μ2 355 22 = br ∧ FE μ μ2 ∧ t + j ≤ Q.2.2.2 ∧ nNot Q.1 400 t = j + nNot Q.1 (400 - j) (t + j) ∧ k = Q.2.2.2 - (t + j)) (Q.2.2.2 - t) ⟨0, rfl, h, hg, h22, FE.rf, ht, by simp, rfl⟩ ?_
  rintro k ρ μ2 ⟨j, rfl, h2, hg2, hB, hF, htj, hN, rfl⟩
  have hN4 := hQ.1
  (try simp only [zit_e, Bool.and_eq_true, Bool.or_eq_true, Bool.not_eq_true', Bool.and_eq_false_iff, Bool.or_eq_false_iff, Bool.not_eq_false', zbe, zdt, zdf, zb2_p, zbp_0, zbp_1, zbp_inj, zbp_01, Bool.true_eq_false, Bool.false_eq_true, true_and, and_true, Decidable.not_not, Classical.not_not, implies_true, List.nil_append, List.cons_append, List.append_assoc, Option.some.injEq, Sum.inl.injEq, zSw_c, zSw_n]); (try simp only [zit_e, Bool.and_eq_true, Bool.or_eq_true, Bool.not_eq_true', Bool.and_eq_false_iff, Bool.or_eq_false_iff, Bool.not_eq_false', zbe, zdt, zdf, zb2_p, zbp_0, zbp_1, zbp_inj, zbp_01, Bool.true_eq_false, Bool.false_eq_true, true_and, and_true, Decidable.not_not, Classical.not_not, implies_true, List.nil_append, List.cons_append, List.append_assoc, Option.some.injEq, Sum.inl.injEq, zSw_c, zSw_n, zc_355, f_M_sign, g_M_sign, f_M_codeAt, g_M_codeAt]); (try simp only [zi_cs, zi_c0, zii_cs, zii_c0, zl_cs, zl_c0, zll_cs, zll_c0, zr_cs, zr_c0, zrr_cs, zrr_c0, zxs_cs, zxs_c0, zxx_cs, zxx_c0, zfree_c0, zfree_c1, zfree_cs, zfree_cz, zlong_i, zlong_r, zlong_x, zset_0, zset_s, true_and, and_true, Option.some.injEq, Sum.inl.injEq, Sum.inr.injEq, zb2_p, zbp_0, zbp_1, zbp_inj, zbp_01, Nat.zero_add, Nat.reduceAdd, implies_true, List.nil_append, List.cons_append, List.append_assoc, Int.not_lt, Int.not_le, Decidable.not_not, Int.zero_add, Int.reduceLE, Int.reduceLT, Int.reduceEq, Int.reduceNe, Int.reduceAdd, Int.reduceSub, Int.reduceMul, Int.reduceNeg, Int.reduceToNat, Nat.reduceMul, Nat.reduceLT, Nat.reduceEqDiff, and_self, ite_true, ite_false, zx1, zx2, zRecv, List.length_cons, List.length_nil, ne_eq, not_true_eq_false, not_false_eq_true, true_or, or_true, or_false, false_or, and_false, false_and, zf01, zf10, reduceCtorEq, zSw_c, zSw_n, zm_r, zit_T, zit_F, false_implies, true_implies, zc_355, f_M_sign, g_M_sign, f_M_codeAt, g_M_codeAt])
  refine ep_w (by omega) hQ h2 hg2 htj (by decide) (fun c0 htn μ3 a1 a2 a3 a4 => ⟨_, rfl, ?_⟩) (fun c0 => ⟨_, rfl, ?_⟩)
  · rw [if_pos (by decide)]
    refine ⟨Q.2.2.2 - (t + j + 1), by omega, j + 1, ?_, a1, a2, a3.trans hB, hF.tr a4, htn, ?_, rfl⟩
    · have e : zbp ((j : Int) % 2 = 0) = ((j + 1 : Nat) : Int) % 2 := by
        unfold zbp
        split <;> omega
      rw [e]
    · rw [hN, show 400 - j = (400 - (j + 1)) + 1 by omega, nNot, if_pos c0, show t + j + 1 = t + (j + 1) by omega]
      omega
  · rw [if_neg (by decide)]
    have hj0 : nNot Q.1 (400 - j) (t + j) = 0 := by
      cases 400 - j with
      | zero => rfl
      | succ f => rw [nNot, if_neg c0]
    rw [hj0, Nat.add_zero] at hN
    rw [hN] at hR
    rcases e1 : pPos Q.1 S T (t + j) l w with ⟨t2, _ | ⟨l2, m2, c2⟩⟩
    · rw [e1] at hR
      unfold pNeg at hR
      split at hR <;> cases hR
    rw [e1] at hR
    refine zCw.use (hp μ2 live br (t + j) l w t2 l2 m2 c2 hlv hbr h2 hg2 hB hl htj e1) hdp (fun r μ4 e => ?_)
    obtain ⟨x, rfl, hx, v2, v3, v4, v5⟩ := e
    refine ⟨_, rfl, by omega, ?_⟩
    unfold pNeg at hR
    split at hR
    next c1 =>
      cases hR
      refine ⟨_, rfl, ?_, fun q1 q2 y q3 => ?_, v3, ?_, hF.tr v5⟩
      · unfold zbp
        split <;> omega
      · unfold mNot at q3
        rcases e2 : m2 W with _ | a
        · rw [e2] at q3
          cases q3
        rw [e2] at q3
        cases q3
        have := v2 q1 q2 a e2
        unfold zbp
        split <;> omega
      · unfold mNot
        rw [evB_not]
        exact v4
    next c1 =>
      cases hR
      refine ⟨_, rfl, ?_, fun q1 q2 y q3 => ?_, v3, v4, hF.tr v5⟩
      · unfold zbp
        split <;> omega
      · have := v2 q1 q2 y q3
        unfold zbp
        split <;> omega
def cmpB (c a b : Int) : Prop := (if c = 160 then !decide (0 ≤ zcmp a b) else if c = 162 then !decide (zcmp a b ≤ 0) else !!decide (zcmp a b = 0)) = true
theorem cmpB_e {c a b : Int} (hc : c = 160 ∨ c = 162 ∨ c = 161) : opV (oCmp c) a b = some (zbp (cmpB c a b)) := by
  have h1 := (zcmp_p (a := a) (b := b)).1
  have h2 := (zcmp_p (a := a) (b := b)).2.1
  have h3 := (zcmp_p (a := a) (b := b)).2.2
  unfold cmpB oCmp opV
  rcases hc with c | c | c
  · rw [c]
    by_cases q : a < b
    · have : ¬ 0 ≤ zcmp a b := by omega
      simp [q, zbt, this]
    · have : 0 ≤ zcmp a b := by omega
      simp [q, zbf, this]
  · rw [c]
    by_cases q : b < a
    · have : ¬ zcmp a b ≤ 0 := by omega
      simp [q, zbt, this]
    · have : zcmp a b ≤ 0 := by omega
      simp [q, zbf, this]
  · rw [c]
    by_cases q : a = b
    · subst q
      have : zcmp a a = 0 := h3.mpr rfl
      simp [zbt, this]
    · have : ¬ zcmp a b = 0 := by omega
      simp [q, zbf, this]
theorem ev_cmp {live br c : Int} {E1 E2 : Option Int} (hl : live = 0 ∨ live = 1) (hb : br = 0 ∨ br = 1) (hc : c = 160 ∨ c = 162 ∨ c = 161) : evB live (evB live br E1) E2 = evB live br (mE (oCmp c) E1 E2) ∧ (live = 1 → br = 0 → ∀ y, mE (oCmp c) E1 E2 = some y → y = zbp ((¬ live = 0 ∧ evB live (evB live br E1) E2 = 0) ∧ cmpB c (evV live br E1) (evV live (evB live br E1) E2))) := by
  by_cases hd : live = 0 ∨ ¬ br = 0
  · rw [evB_d hd, evB_d hd, evB_d hd]
    exact ⟨rfl, fun _ _ => by omega⟩
  have hv : live = 1 ∧ br = 0 := by omega
  rcases E1 with _ | a
  · rw [(evV_n hv rfl).2]
    rw [show mE (oCmp c) none E2 = none from rfl, (evV_n hv rfl).2, evB_d (Or.inr (by decide))]
    exact ⟨rfl, fun _ _ y q => by cases q⟩
  rw [(evV_s hv rfl).2, (evV_s hv rfl).1]
  have hv2 : live = 1 ∧ (0 : Int) = 0 := ⟨hv.1, rfl⟩
  rcases E2 with _ | b
  · rw [(evV_n hv2 rfl).2, show mE (oCmp c) (some a) none = none from rfl, (evV_n hv rfl).2]
    exact ⟨rfl, fun _ _ y q => by cases q⟩
  rw [(evV_s hv2 rfl).2, (evV_s hv2 rfl).1, show mE (oCmp c) (some a) (some b) = opV (oCmp c) a b from rfl, cmpB_e hc, (evV_s hv rfl).2]
  refine ⟨rfl, fun _ _ y q => ?_⟩
  cases q
  by_cases q : cmpB c a b
  · rw [zbt q, zbt ⟨⟨by omega, rfl⟩, q⟩]
  · rw [zbf q, zbf (fun z => q z.2)]
theorem q_M_positiveOf {d ds dt : Nat} (hd : 4 ≤ d) (hds : ds + 1 ≤ d) (hdt : dt + 1 ≤ d) {Q : zTk} {o : Bool} {b : Int} {W : Int → Int} {S : Pr} {T : Option Pr} (hQ : okK Q) (hG : PG Q.1 Q.2.2.2 S) (hs : ECT ESm ds y_M_sumOf Q o b W S) (hT : ∀ q, T = some q → PG Q.1 Q.2.2.2 q ∧ ECT ETs dt y_M_testOf Q o b W q) : ECT ETs d y_M_positiveOf Q o b W (pPos Q.1 S T) := by
  intro μ live br t l w t1 l1 m c hlv hbr h hg h22 hl ht hp
  refine zSp.ss [vr 355, vi live, vx 0, vx 0, vx 0, vx 0, vx 0] rfl (w_M_positiveOf (Nat.le_trans (by decide) hd)) rfl rfl ?_
  (try simp only [zit_e, Bool.and_eq_true, Bool.or_eq_true, Bool.not_eq_true', Bool.and_eq_false_iff, Bool.or_eq_false_iff, Bool.not_eq_false', zbe, zdt, zdf, zb2_p, zbp_0, zbp_1, zbp_inj, zbp_01, Bool.true_eq_false, Bool.false_eq_true, true_and, and_true, Decidable.not_not, Classical.not_not, implies_true, List.nil_append, List.cons_append, List.append_assoc, Option.some.injEq, Sum.inl.injEq, zSw_c, zSw_n]); (try simp only [zit_e, Bool.and_eq_true, Bool.or_eq_true, Bool.not_eq_true', Bool.and_eq_false_iff, Bool.or_eq_false_iff, Bool.not_eq_false', zbe, zdt, zdf, zb2_p, zbp_0, zbp_1, zbp_inj, zbp_01, Bool.true_eq_false, Bool.false_eq_true, true_and, and_true, Decidable.not_not, Classical.not_not, implies_true, List.nil_append, List.cons_append, List.append_assoc, Option.some.injEq, Sum.inl.injEq, zSw_c, zSw_n, zc_355, f_M_sign, g_M_sign, f_M_codeAt, g_M_codeAt]); (try simp only [zi_cs, zi_c0, zii_cs, zii_c0, zl_cs, zl_c0, zll_cs, zll_c0, zr_cs, zr_c0, zrr_cs, zrr_c0, zxs_cs, zxs_c0, zxx_cs, zxx_c0, zfree_c0, zfree_c1, zfree_cs, zfree_cz, zlong_i, zlong_r, zlong_x, zset_0, zset_s, true_and, and_true, Option.some.injEq, Sum.inl.injEq, Sum.inr.injEq, zb2_p, zbp_0, zbp_1, zbp_inj, zbp_01, Nat.zero_add, Nat.reduceAdd, implies_true, List.nil_append, List.cons_append, List.append_assoc, Int.not_lt, Int.not_le, Decidable.not_not, Int.zero_add, Int.reduceLE, Int.reduceLT, Int.reduceEq, Int.reduceNe, Int.reduceAdd, Int.reduceSub, Int.reduceMul, Int.reduceNeg, Int.reduceToNat, Nat.reduceMul, Nat.reduceLT, Nat.reduceEqDiff, and_self, ite_true, ite_false, zx1, zx2, zRecv, List.length_cons, List.length_nil, ne_eq, not_true_eq_false, not_false_eq_true, true_or, or_true, or_false, false_or, and_false, false_and, zf01, zf10, reduceCtorEq, zSw_c, zSw_n, zm_r, zit_T, zit_F, false_implies, true_implies, zc_355, f_M_sign, g_M_sign, f_M_codeAt, g_M_codeAt])
  have hN4 := hQ.1
  have hb := h.1.2.2
  unfold pPos at hp
  refine ep_w (by omega) hQ h hg ht (by decide) (fun c0 htn μ1 a1 a2 a3 a4 => ⟨_, rfl, ?_⟩) (fun c0 => ⟨_, rfl, ?_⟩)
  · rw [if_pos (by decide)]
    rw [if_pos c0] at hp
    rcases T with _ | s
    · cases hp
    have hs := hT s rfl
    simp only at hp
    have hg1 := hs.1 (t + 1) l w hl htn
    rcases e1 : s (t + 1) l w with ⟨t2, _ | ⟨l2, m2, c2⟩⟩
    · rw [e1] at hp
      cases hp
    rw [e1] at hp
    simp only at hp
    have hg2 := hg1.2 _ _ _ _ e1
    split at hp
    next c1 =>
      cases hp
      refine zCw.use (hs.2 μ1 live br (t + 1) l w t2 _ _ _ hlv hbr a1 a2 (a3.trans h22) hl htn e1) hdt (fun r μ2 e => ?_)
      obtain ⟨x, rfl, hx, e2, e3, e4, e5⟩ := e
      refine ⟨_, rfl, zI_s (by omega) (by omega), hx, x, rfl, hx, e2, ?_, ?_, (a4.tr e5).tr (FE_zm (Or.inl rfl))⟩
      · rw [zm_s, e3]
        omega
      · rw [zm_j (by decide)]
        exact e4
    next => cases hp
  · rw [if_neg (by decide)]
    rw [if_neg c0] at hp
    rcases e1 : S t l w with ⟨t2, _ | ⟨l2, m2, c2⟩⟩
    · rw [e1] at hp
      cases hp
    rw [e1] at hp
    simp only at hp
    have hg1 := (hG t l w hl ht).2 _ _ _ _ e1
    split at hp
    · cases hp
    next hop =>
    have hc3 : Q.1 t2 = 160 ∨ Q.1 t2 = 162 ∨ Q.1 t2 = 161 := by
      unfold oCmp at hop
      repeat' split at hop
      all_goals omega
    have htn : t2 < Q.2.2.2 := zNlt (c := Q.1) hQ.2.1 (by omega)
    rcases e2 : S (t2 + 1) l2 (w + c2.length) with ⟨t3, _ | ⟨l3, m3, c3⟩⟩
    · rw [e2] at hp
      cases hp
    rw [e2] at hp
    cases hp
    refine zCw.use (hs μ live br t l w t2 l2 m2 c2 hlv hbr h hg h22 hl ht e1) hds (fun r μ2 e => ?_)
    obtain ⟨rfl, u2, u3, u4, u5⟩ := e
    have hBr : evB live br (m2 W) = 0 ∨ evB live br (m2 W) = 1 := by
      unfold evB
      split <;> omega
    have h2 := Ev_c h u5
    have hc := Ev_code hQ h2 u3
    refine ⟨_, rfl, hc.1, zI_s (by omega) (by omega), ?_⟩
    refine zCw.use (hs _ live (evB live br (m2 W)) (t2 + 1) l2 (w + c2.length) _ _ _ _ hlv hBr (Ev_c h2 (FE_zm (Or.inl rfl))) (by rw [zm_s]; omega) (by rw [zm_j (by decide)]; exact u4) hg1.2.2.2.1 htn e2) hds (fun r μ4 e => ?_)
    obtain ⟨rfl, v2, v3, v4, v5⟩ := e
    refine ⟨_, rfl, Classical.em _ |>.symm, ?_⟩
    have hk := ev_cmp (E1 := m2 W) (E2 := m3 W) hlv hbr hc3
    rw [← mOp_E (by unfold oCmp; rcases hc3 with q | q | q <;> rw [q] <;> decide) (by unfold oCmp; rcases hc3 with q | q | q <;> rw [q] <;> decide)] at hk
    show ETs b W live br _ _ μ (some (vi (zbp ((¬ live = 0 ∧ μ4 355 22 = 0) ∧ cmpB (zit (μ2 355 20 < μ2 355 21) (μ2 357 (164 + μ2 355 20)) 0) (evV live br (m2 W)) (evV live (evB live br (m2 W)) (m3 W)))))) μ4
    rw [hc.2, v4]
    refine ⟨_, rfl, ?_, hk.2, v3, v4.trans hk.1, (u5.tr (FE_zm (Or.inl rfl))).tr v5⟩
    unfold zbp
    split <;> omega

