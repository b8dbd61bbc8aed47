/-! the reference's parts, gone along -/
def ESm (b : Int) (W : Int → Int) (live br : Int) (t1 : Nat) (m : Mn) (μ : zMem) : zRo := fun r μ' => r = some (vl (evV live br (m W))) ∧ (-1000000000 ≤ evV live br (m W) ∧ evV live br (m W) ≤ 1000000000) ∧ μ' 355 20 = b + t1 ∧ μ' 355 22 = evB live br (m W) ∧ FE μ μ'
def ETs (b : Int) (W : Int → Int) (live br : Int) (t1 : Nat) (m : Mn) (μ : zMem) : zRo := fun r μ' => ∃ x : Int, r = some (vi x) ∧ (x = 0 ∨ x = 1) ∧ (live = 1 → br = 0 → ∀ y, m W = some y → y = x) ∧ μ' 355 20 = b + t1 ∧ μ' 355 22 = evB live br (m W) ∧ FE μ μ'
def ECT (R : Int → (Int → Int) → Int → Int → Nat → Mn → zMem → zRo) (d : Nat) (y : zMt) (Q : zTk) (o : Bool) (b : Int) (W : Int → Int) (pp : Pr) : Prop := ∀ (μ : zMem) (live br : Int) (t l w t1 l1 : Nat) (m : Mn) (c : List Int), (live = 0 ∨ live = 1) → (br = 0 ∨ br = 1) → Ev Q o b W μ → μ 355 20 = b + t → μ 355 22 = br → l ≤ 50 → t ≤ Q.2.2.2 → pp t l w = (t1, some (l1, m, c)) → zSp d 0 0 y zT0 [vr 355, vi live] μ zT0 (R b W live br t1 m μ)
section ZEV2
variable {d : Nat} {Q : zTk} {o : Bool} {b : Int} {W : Int → Int} {t l w : Nat} {μ : zMem} {K : zRo} {k : Int}
theorem ep_w (hd : 3 ≤ d) (hQ : okK Q) (h : Ev Q o b W μ) (hg : μ 355 20 = b + t) (ht : t ≤ Q.2.2.2) (k0 : k ≠ 0) (hk : Q.1 t = k → t < Q.2.2.2 → ∀ μ', Ev Q o b W μ' → μ' 355 20 = b + (t + 1 : Nat) → μ' 355 22 = μ 355 22 → FE μ μ' → K (some (vi 1)) μ') (hf : ¬ Q.1 t = k → K (some (vi 0)) μ) : zCw d y_M_passes0 [vr 355, vi k] μ K :=
  zCw.use (q_M_passes0 (d := 2) (by decide) hQ h hg (by have := hQ.1; omega)) hd (fun q μ' e => by
    obtain ⟨rfl, e1, e2⟩ := e
    by_cases c : Q.1 t = k
    · have := e1 c
      subst this
      rw [zbt c]
      exact hk c (zNlt (c := Q.1) hQ.2.1 (by omega)) _ (Ev_c h (FE_zm (Or.inl rfl))) (by rw [zm_s]; omega) (zm_j (by decide)) (FE_zm (Or.inl rfl))
    · have := e2 c
      subst this
      rw [zbf c]
      exact hf c)
end ZEV2
theorem evV_d {live br : Int} {E : Option Int} (h : live = 0 ∨ ¬ br = 0) : evV live br E = 0 ∧ evB live br E = br := by
  unfold evV evB
  rw [if_neg (by omega), if_neg (by omega)]
  exact ⟨rfl, rfl⟩
theorem evV_s {live br x : Int} {E : Option Int} (h : live = 1 ∧ br = 0) (hx : E = some x) : evV live br E = x ∧ evB live br E = 0 := by
  unfold evV evB
  rw [if_pos h, if_neg (fun q => by rw [hx] at q; cases q.2.2), hx]
  exact ⟨rfl, h.2⟩
theorem evV_n {live br : Int} {E : Option Int} (h : live = 1 ∧ br = 0) (hx : E = none) : evV live br E = 0 ∧ evB live br E = 1 := by
  unfold evV evB
  rw [if_pos h, if_pos ⟨h.1, h.2, hx⟩, hx]
  exact ⟨rfl, rfl⟩
theorem ESm_d {b : Int} {W : Int → Int} {live br : Int} {t1 : Nat} {m : Mn} {μ μ' : zMem} (h : live = 0 ∨ ¬ br = 0) (h1 : μ' 355 20 = b + t1) (h2 : μ' 355 22 = br) (h3 : FE μ μ') : ESm b W live br t1 m μ (some (vl 0)) μ' := by
  unfold ESm
  rw [(evV_d h).1, (evV_d h).2]
  exact ⟨rfl, by decide, h1, h2, h3⟩
theorem ESm_l {b x : Int} {W : Int → Int} {live br : Int} {t1 : Nat} {m : Mn} {μ μ' : zMem} (h : live = 1 ∧ br = 0) (hx : m W = some x) (hb : -1000000 ≤ x ∧ x ≤ 1000000) (h1 : μ' 355 20 = b + t1) (h2 : μ' 355 22 = br) (h3 : FE μ μ') : ESm b W live br t1 m μ (some (vl x)) μ' := by
  unfold ESm
  rw [(evV_s h hx).1, (evV_s h hx).2]
  exact ⟨rfl, by omega, h1, h2.trans h.2, h3⟩
theorem FE_db {μ μ' : zMem} (h : FE μ μ') : fM μ' = fM μ ∧ dbM μ' = dbM μ := by
  have e := h.1 357 (by decide)
  refine ⟨?_, ?_⟩
  · unfold fM
    rw [e]
  · unfold dbM fM
    rw [e]
theorem q_M_partOf {d ds : Nat} (hd : 4 ≤ d) (hds : ds + 1 ≤ d) {Q : zTk} {o : Bool} {b : Int} {W : Int → Int} {S : Option Pr} (hQ : okK Q) (hs : ∀ s, S = some s → PG Q.1 Q.2.2.2 s ∧ ECT ESm ds y_M_sumOf Q o b W s) : ECT ESm d y_M_partOf Q o b W (pPart o Q.1 Q.2.1 S) := by
  intro μ live br t l w t1 l1 m c hlv hbr h hg h22 hl ht hp
  refine zSp.ss [vr 355, vi live, vx 0, vx 0, vx 0] rfl (w_M_partOf (Nat.le_trans (by decide) hd)) rfl rfl ?_
  (try simp only [zit_e, Bool.and_eq_true, Bool.or_eq_true, Bool.not_eq_true', Bool.and_eq_false_iff, Bool.or_eq_false_iff, Bool.not_eq_false', zbe, zdt, zdf, zb2_p, zbp_0, zbp_1, zbp_inj, zbp_01, Bool.true_eq_false, Bool.false_eq_true, true_and, and_true, Decidable.not_not, Classical.not_not, implies_true, List.nil_append, List.cons_append, List.append_assoc, Option.some.injEq, Sum.inl.injEq, zSw_c, zSw_n]); (try simp only [zit_e, Bool.and_eq_true, Bool.or_eq_true, Bool.not_eq_true', Bool.and_eq_false_iff, Bool.or_eq_false_iff, Bool.not_eq_false', zbe, zdt, zdf, zb2_p, zbp_0, zbp_1, zbp_inj, zbp_01, Bool.true_eq_false, Bool.false_eq_true, true_and, and_true, Decidable.not_not, Classical.not_not, implies_true, List.nil_append, List.cons_append, List.append_assoc, Option.some.injEq, Sum.inl.injEq, zSw_c, zSw_n, zc_355, f_M_sign, g_M_sign, f_M_codeAt, g_M_codeAt, f_M_isPerson, g_M_isPerson, f_M_owed, g_M_owed]); (try simp only [zi_cs, zi_c0, zii_cs, zii_c0, zl_cs, zl_c0, zll_cs, zll_c0, zr_cs, zr_c0, zrr_cs, zrr_c0, zxs_cs, zxs_c0, zxx_cs, zxx_c0, zfree_c0, zfree_c1, zfree_cs, zfree_cz, zlong_i, zlong_r, zlong_x, zset_0, zset_s, true_and, and_true, Option.some.injEq, Sum.inl.injEq, Sum.inr.injEq, zb2_p, zbp_0, zbp_1, zbp_inj, zbp_01, Nat.zero_add, Nat.reduceAdd, implies_true, List.nil_append, List.cons_append, List.append_assoc, Int.not_lt, Int.not_le, Decidable.not_not, Int.zero_add, Int.reduceLE, Int.reduceLT, Int.reduceEq, Int.reduceNe, Int.reduceAdd, Int.reduceSub, Int.reduceMul, Int.reduceNeg, Int.reduceToNat, Nat.reduceMul, Nat.reduceLT, Nat.reduceEqDiff, and_self, ite_true, ite_false, zx1, zx2, zRecv, List.length_cons, List.length_nil, ne_eq, not_true_eq_false, not_false_eq_true, true_or, or_true, or_false, false_or, and_false, false_and, zf01, zf10, reduceCtorEq, zSw_c, zSw_n, zm_r, zit_T, zit_F, false_implies, true_implies, zc_355, f_M_sign, g_M_sign, f_M_codeAt, g_M_codeAt, f_M_isPerson, g_M_isPerson, f_M_owed, g_M_owed])
  have hN4 := hQ.1
  refine ep_w (by omega) hQ h hg ht (by decide) (fun c0 htn μ1 a1 a2 a3 a4 => ⟨_, rfl, ?_⟩) (fun c0 => ⟨_, rfl, ?_⟩)
  · rw [if_pos (by decide)]
    unfold pPart at hp
    rw [if_pos c0] at hp
    rcases S with _ | s
    · cases hp
    have hs := hs s rfl
    simp only at hp
    have hg1 := hs.1 (t + 1) l w hl htn
    rcases e1 : s (t + 1) l w with ⟨t2, _ | ⟨l2, m2, c2⟩⟩
    · rw [e1] at hp
      cases hp
    rw [e1] at hp
    simp only at hp
    have hg2 := hg1.2 _ _ _ _ e1
    split at hp
    next c1 =>
      cases hp
      refine zCw.use (hs.2 μ1 live br (t + 1) l w t2 _ _ _ hlv hbr a1 a2 (a3.trans h22) hl htn e1) hds (fun r μ2 e => ?_)
      obtain ⟨rfl, e2, e3, e4, e5⟩ := e
      have hb := h.1.2.2
      refine ⟨_, rfl, zI_s (by omega) (by omega), rfl, e2, ?_, ?_, (a4.tr e5).tr (FE_zm (Or.inl rfl))⟩
      · rw [zm_s, e3]
        omega
      · rw [zm_j (by decide)]
        exact e4
    next => cases hp
  · rw [if_neg (by decide)]
    have hc := Ev_code hQ h hg
    have hb := h.1.2.2
    have h23 := h.1.2.1
    have hv := h.2.1
    have hw := h.2.2.2.2
    rw [hc.2, hg, h22]
    refine ⟨by omega, zI_s (by omega) (by omega), ?_⟩
    unfold pPart at hp
    rw [if_neg c0] at hp
    split at hp
    · cases hp
    split at hp
    next c50 =>
      split at hp
      next c1k =>
        have ht1 := zNlt (c := Q.1) hQ.2.1 (show Q.1 t ≠ 0 by omega)
        have h0 := hQ.2.2.1 t
        cases hp
        have f1 : zm μ 355 20 (b + t + 1) 355 20 = b + (t + 1 : Nat) := by
          rw [zm_s]
          omega
        have f2 : zm μ 355 20 (b + t + 1) 355 22 = br := by
          rw [zm_j (by decide), h22]
        rw [if_neg (by omega), if_neg (by omega)]
        refine zif (fun q => ESm_d q f1 f2 (FE_zm (Or.inl rfl))) (fun q => ?_)
        rw [if_pos c50]
        refine ⟨by ((try simp only [zI_e]); (first | done | omega | skip)), ?_⟩
        rw [show 2964 + (b + (t : Int) + 1) - 1 = 2964 + (b + t) by omega, (hv t ht1).2]
        exact ESm_l (by omega) rfl (by omega) f1 f2 (FE_zm (Or.inl rfl))
      next => cases hp
    next c50 =>
    cases o with
    | false =>
      rw [if_neg (by decide)] at hp h23
      split at hp
      next c9 =>
        cases hp
        have f1 : zm μ 355 20 (b + t + 1) 355 20 = b + (t + 1 : Nat) := by
          rw [zm_s]
          omega
        have f2 : zm μ 355 20 (b + t + 1) 355 22 = br := by
          rw [zm_j (by decide), h22]
        rw [if_neg (by omega), if_neg (by omega)]
        refine zif (fun q => ESm_d q f1 f2 (FE_zm (Or.inl rfl))) (fun q => ?_)
        rw [if_neg c50, if_pos h23]
        refine ⟨by ((try simp only [zI_e]); (first | done | omega | skip)), ?_⟩
        rw [h.2.2.1 rfl _ (by omega) (by omega)]
        exact ESm_l (by omega) rfl (hw _ (by omega) (by omega)) f1 f2 (FE_zm (Or.inl rfl))
      next => cases hp
    | true =>
      rw [if_pos (by decide)] at hp h23
      have h6 := h.2.2.2.1 rfl
      have hO := h6.2
      split at hp
      next c17 =>
        cases hp
        have f1 : zm μ 355 20 (b + t + 1) 355 20 = b + (t + 1 : Nat) := by
          rw [zm_s]
          omega
        have f2 : zm μ 355 20 (b + t + 1) 355 22 = br := by
          rw [zm_j (by decide), h22]
        rw [if_neg (by omega), if_neg (by omega)]
        refine zif (fun q => ESm_d q f1 f2 (FE_zm (Or.inl rfl))) (fun q => ?_)
        rw [if_neg c50, if_neg (by omega), if_neg (by omega), if_neg (by omega)]
        have ei : zit (Q.1 t = 17) 0 (Q.1 t - 19 + 1) = ordI (Q.1 t) := by
          unfold ordI zit
          repeat' split
          all_goals omega
        have ho : 0 ≤ ordI (Q.1 t) ∧ ordI (Q.1 t) < 4 := by
          unfold ordI
          split <;> omega
        rw [ei]
        refine ⟨⟨fun _ => by ((try simp only [zI_e]); (first | done | omega | skip)), ho⟩, ?_⟩
        rw [hO.1 _ ho.1 ho.2]
        exact ESm_l (by omega) rfl (hw _ (by omega) (by omega)) f1 f2 (FE_zm (Or.inl rfl))
      split at hp
      next c17 c22 =>
        rw [if_pos (by omega)]
        split at hp
        next c5 =>
          have ht1 := zNlt (c := Q.1) hQ.2.1 (show Q.1 (t + 1) ≠ 0 by omega)
          have v1 : μ 357 (2964 + (b + (t : Int) + 1)) = Q.2.1 (t + 1) := by
            have := (hv (t + 1) ht1).2
            rwa [show (b + ((t + 1 : Nat) : Int)) = b + (t : Int) + 1 by omega] at this
          have p0 := hQ.2.2.1 (t + 1)
          refine ⟨by ((try simp only [zI_e]); (first | done | omega | skip)), zI_s (by omega) (by omega), ?_⟩
          split at hp
          next c2 =>
            cases hp
            have f1 : zm (zm μ 355 20 (b + t + 1)) 355 20 (b + t + 1 + 1) 355 20 = b + (t + 2 : Nat) := by
              rw [zm_s]
              omega
            have f2 : zm (zm μ 355 20 (b + t + 1)) 355 20 (b + t + 1 + 1) 355 22 = br := by
              rw [zm_j (by decide), zm_j (by decide), h22]
            have f3 : FE μ (zm (zm μ 355 20 (b + t + 1)) 355 20 (b + t + 1 + 1)) := (FE_zm (Or.inl rfl)).tr (FE_zm (Or.inl rfl))
            rw [if_neg (by omega)]
            refine zif (fun q => ESm_d q f1 f2 f3) (fun q => ?_)
            rw [if_neg c50, if_neg (by omega), if_pos c2, v1]
            have hp7 := hO.2.1
            refine ⟨⟨hp7, fun q2 => by ((try simp only [zI_e]); (first | done | omega | skip))⟩, ?_⟩
            rw [← hO.2.2.1 _ p0 c5.2]
            exact ESm_l (by omega) rfl (hw _ (by omega) (by omega)) f1 f2 f3
          next c2 =>
          split at hp
          next c52 =>
            have ht2 := zNlt (c := Q.1) hQ.2.1 (show Q.1 (t + 2) ≠ 0 by omega)
            have v2 : μ 357 (2964 + (b + (t : Int) + 1 + 1)) = Q.2.1 (t + 2) := by
              have := (hv (t + 2) ht2).2
              rwa [show (b + ((t + 2 : Nat) : Int)) = b + (t : Int) + 1 + 1 by omega] at this
            have p02 := hQ.2.2.1 (t + 2)
            cases hp
            have f1 : zm (zm (zm μ 355 20 (b + t + 1)) 355 20 (b + t + 1 + 1)) 355 20 (b + t + 1 + 1 + 1) 355 20 = b + (t + 3 : Nat) := by
              rw [zm_s]
              omega
            have f2 : zm (zm (zm μ 355 20 (b + t + 1)) 355 20 (b + t + 1 + 1)) 355 20 (b + t + 1 + 1 + 1) 355 22 = br := by
              rw [zm_j (by decide), zm_j (by decide), zm_j (by decide), h22]
            have f3 : FE μ (zm (zm (zm μ 355 20 (b + t + 1)) 355 20 (b + t + 1 + 1)) 355 20 (b + t + 1 + 1 + 1)) := ((FE_zm (Or.inl rfl)).tr (FE_zm (Or.inl rfl))).tr (FE_zm (Or.inl rfl))
            rw [if_pos (by omega)]
            refine ⟨by ((try simp only [zI_e]); (first | done | omega | skip)), zI_s (by omega) (by omega), ?_⟩
            refine zif (fun q => ESm_d q f1 f2 f3) (fun q => ?_)
            rw [if_neg c50, if_neg (by omega), if_neg c2, if_pos (by omega), v1, v2, (FE_db f3).1, (FE_db f3).2]
            refine ⟨h6.1, ?_⟩
            rw [← hO.2.2.2 _ _ p0 c5.2 p02 c52.2]
            exact ESm_l (by omega) rfl (hw _ (by omega) (by omega)) f1 f2 f3
          next => cases hp
        next => cases hp
      next => cases hp

