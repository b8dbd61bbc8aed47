/-! whom a party costs least -/
theorem q_D_partyNeeds {d : Nat} (hd : 8 ≤ d) {μ : zMem} {Z : Zt} {F : Option (List Cls)} {A : Lg} {w : Int → Int} {h : Int} (hc : CTx μ Z F A w) (hh : 0 ≤ h ∧ h ≤ 6) : zSp d 0 0 y_D_partyNeeds zT0 [vr 0, vi h] μ zT0 (fun q μ' => q = some (vi (pnA Z F A w h)) ∧ CF w μ μ') := by
  have hn := hc.1.1
  have hw := hc.2.2.2.2.2
  refine zSp.ss [vr 0, vi h, vx 0, vx 0, vx 0] rfl (w_D_partyNeeds (Nat.le_trans (by decide) hd)) rfl rfl ?_
  (try simp only [zit_e, Bool.and_eq_true, Bool.or_eq_true, Bool.not_eq_true', Bool.and_eq_false_iff, Bool.or_eq_false_iff, Bool.not_eq_false', zbe, zdt, zdf, zb2_p, zbp_0, zbp_1, zbp_inj, zbp_01, Bool.true_eq_false, Bool.false_eq_true, true_and, and_true, Decidable.not_not, Classical.not_not, implies_true, List.nil_append, List.cons_append, List.append_assoc, Option.some.injEq, Sum.inl.injEq, zSw_c, zSw_n]); (try simp only [zit_e, Bool.and_eq_true, Bool.or_eq_true, Bool.not_eq_true', Bool.and_eq_false_iff, Bool.or_eq_false_iff, Bool.not_eq_false', zbe, zdt, zdf, zb2_p, zbp_0, zbp_1, zbp_inj, zbp_01, Bool.true_eq_false, Bool.false_eq_true, true_and, and_true, Decidable.not_not, Classical.not_not, implies_true, List.nil_append, List.cons_append, List.append_assoc, Option.some.injEq, Sum.inl.injEq, zSw_c, zSw_n, zc_0, zc_1, zc_324]); (try simp only [zi_cs, zi_c0, zii_cs, zii_c0, zl_cs, zl_c0, zll_cs, zll_c0, zr_cs, zr_c0, zrr_cs, zrr_c0, zxs_cs, zxs_c0, zxx_cs, zxx_c0, zfree_c0, zfree_c1, zfree_cs, zfree_cz, zlong_i, zlong_r, zlong_x, zset_0, zset_s, true_and, and_true, Option.some.injEq, Sum.inl.injEq, Sum.inr.injEq, zb2_p, zbp_0, zbp_1, zbp_inj, zbp_01, Nat.zero_add, Nat.reduceAdd, implies_true, List.nil_append, List.cons_append, List.append_assoc, Int.not_lt, Int.not_le, Decidable.not_not, Int.zero_add, Int.reduceLE, Int.reduceLT, Int.reduceEq, Int.reduceNe, Int.reduceAdd, Int.reduceSub, Int.reduceMul, Int.reduceNeg, Int.reduceToNat, Nat.reduceMul, Nat.reduceLT, Nat.reduceEqDiff, and_self, ite_true, ite_false, zx1, zx2, zRecv, List.length_cons, List.length_nil, ne_eq, not_true_eq_false, not_false_eq_true, true_or, or_true, or_false, false_or, and_false, false_and, zf01, zf10, reduceCtorEq, zSw_c, zSw_n, zm_r, zit_T, zit_F, false_implies, true_implies, zc_0, zc_1, zc_324])
  unfold pnA
  have hb : ∀ x, -1 ≤ (fun v => ndA Z F A w v h 1) x ∧ (fun v => ndA Z F A w v h 1) x ≤ 160000 := fun x => ⟨ndA_in.1, Int.le_trans ndA_in.2 (by decide)⟩
  refine zLoop.up Z.1.toNat (fun j ρ μ1 => ∃ (s : Int) (x5 : zV), ρ = [vr 0, vi h, vi s, vi j, x5] ∧ CF w μ μ1 ∧ (0 ≤ s ∧ s ≤ 160000 * j) ∧ smN (fun v => ndA Z F A w v h 1) h Z.1.toNat 0 0 = smN (fun v => ndA Z F A w v h 1) h (Z.1.toNat - j) s j) ⟨0, vx 0, rfl, CF.rf hw, by decide, rfl⟩ ?_
  rintro j ρ μ1 hj ⟨s, x5, rfl, hF, hs, hf⟩
  have h1 := hc.f hF
  have e6 := h1.2.2.1.1
  (try simp only [zit_e, Bool.and_eq_true, Bool.or_eq_true, Bool.not_eq_true', Bool.and_eq_false_iff, Bool.or_eq_false_iff, Bool.not_eq_false', zbe, zdt, zdf, zb2_p, zbp_0, zbp_1, zbp_inj, zbp_01, Bool.true_eq_false, Bool.false_eq_true, true_and, and_true, Decidable.not_not, Classical.not_not, implies_true, List.nil_append, List.cons_append, List.append_assoc, Option.some.injEq, Sum.inl.injEq, zSw_c, zSw_n]); (try simp only [zit_e, Bool.and_eq_true, Bool.or_eq_true, Bool.not_eq_true', Bool.and_eq_false_iff, Bool.or_eq_false_iff, Bool.not_eq_false', zbe, zdt, zdf, zb2_p, zbp_0, zbp_1, zbp_inj, zbp_01, Bool.true_eq_false, Bool.false_eq_true, true_and, and_true, Decidable.not_not, Classical.not_not, implies_true, List.nil_append, List.cons_append, List.append_assoc, Option.some.injEq, Sum.inl.injEq, zSw_c, zSw_n, zc_0, zc_1, zc_324]); (try simp only [zi_cs, zi_c0, zii_cs, zii_c0, zl_cs, zl_c0, zll_cs, zll_c0, zr_cs, zr_c0, zrr_cs, zrr_c0, zxs_cs, zxs_c0, zxx_cs, zxx_c0, zfree_c0, zfree_c1, zfree_cs, zfree_cz, zlong_i, zlong_r, zlong_x, zset_0, zset_s, true_and, and_true, Option.some.injEq, Sum.inl.injEq, Sum.inr.injEq, zb2_p, zbp_0, zbp_1, zbp_inj, zbp_01, Nat.zero_add, Nat.reduceAdd, implies_true, List.nil_append, List.cons_append, List.append_assoc, Int.not_lt, Int.not_le, Decidable.not_not, Int.zero_add, Int.reduceLE, Int.reduceLT, Int.reduceEq, Int.reduceNe, Int.reduceAdd, Int.reduceSub, Int.reduceMul, Int.reduceNeg, Int.reduceToNat, Nat.reduceMul, Nat.reduceLT, Nat.reduceEqDiff, and_self, ite_true, ite_false, zx1, zx2, zRecv, List.length_cons, List.length_nil, ne_eq, not_true_eq_false, not_false_eq_true, true_or, or_true, or_false, false_or, and_false, false_and, zf01, zf10, reduceCtorEq, zSw_c, zSw_n, zm_r, zit_T, zit_F, false_implies, true_implies, zc_0, zc_1, zc_324])
  rw [e6]
  refine zif (fun c0 => ?_) (fun c0 => ?_)
  · rw [smN_s (by omega)] at hf
    have nx : ∀ {s2 : Int} {y5 : zV} {μ2 : zMem}, CF w μ μ2 → (0 ≤ s2 ∧ s2 ≤ 160000 * ((j + 1 : Nat) : Int)) → smN (fun v => ndA Z F A w v h 1) h Z.1.toNat 0 0 = smN (fun v => ndA Z F A w v h 1) h (Z.1.toNat - (j + 1)) s2 ((j + 1 : Nat) : Int) → zI ((j : Int) + 1) ∧ ∃ m', m' < Z.1.toNat - j ∧ ∃ j', m' = Z.1.toNat - j' ∧ j' ≤ Z.1.toNat ∧ ∃ (s : Int) (x5 : zV), [vr 0, vi h, vi s2, vi ((j : Int) + 1), y5] = [vr 0, vi h, vi s, vi j', x5] ∧ CF w μ μ2 ∧ (0 ≤ s ∧ s ≤ 160000 * j') ∧ smN (fun v => ndA Z F A w v h 1) h Z.1.toNat 0 0 = smN (fun v => ndA Z F A w v h 1) h (Z.1.toNat - j') s j' := by
      intro s2 y5 μ2 q1 q2 q3
      exact ⟨zI_s (by omega) (by omega), Z.1.toNat - (j + 1), by omega, j + 1, rfl, by omega, s2, y5, rfl, q1, q2, q3⟩
    refine zif (fun c1 => ?_) (fun c1 => ?_)
    · rw [zit_t c1] at hf
      exact nx hF (by omega) hf
    · rw [zit_f c1] at hf
      refine zCw.use (q_Ru_needOf (d := 7) (by decide) h1 (by omega) (by omega)) (by omega) (fun q μ2 e => ?_)
      obtain ⟨rfl, e2⟩ := e
      have hb1 := hb j
      simp only at hb1 hf
      refine ⟨_, rfl, ?_⟩
      refine zif (fun c2 => ?_) (fun c2 => ?_)
      · rw [zit_t c2] at hf
        exact ⟨hf.symm, hF.tr e2⟩
      · rw [zit_f c2] at hf
        exact ⟨zI_s (by omega) (by omega), nx (hF.tr e2) (by omega) hf⟩
  · have e : j = Z.1.toNat := by omega
    subst e
    rw [Nat.sub_self] at hf
    exact ⟨hf.symm, hF⟩
def paN (g : Int → Int) : Nat → Int × Int
  | 0 => (-1, -1)
  | n + 1 => if g n ≠ -1 ∧ ((paN g n).1 = -1 ∨ g n < (paN g n).2) then ((n : Int), g n) else paN g n
theorem paN_in {g : Int → Int} : ∀ n : Nat, ((paN g n).1 = -1 ∧ (paN g n).2 = -1) ∨ (0 ≤ (paN g n).1 ∧ (paN g n).1 < n ∧ (paN g n).2 = g (paN g n).1)
  | 0 => Or.inl ⟨rfl, rfl⟩
  | n + 1 => by
    have := paN_in (g := g) n
    unfold paN
    split
    · exact Or.inr ⟨by omega, by omega, rfl⟩
    · rcases this with h | h
      · exact Or.inl h
      · exact Or.inr ⟨h.1, by omega, h.2.2⟩
noncomputable def pyA (Z : Zt) (F : Option (List Cls)) (A : Lg) (w : Int → Int) : Int × Int := paN (pnA Z F A w) Z.1.toNat
theorem LC_party {x : Int} : LC y_D_party y_M_party [vi x] := LC.tl (f := fun Z F A w => zit (x = 0) (pyA Z F A w).1 (zit (x = 1) (pyA Z F A w).2 (-1))) (fun μ Z F A w hc => by
    have hn := hc.1.1
    have hw := hc.2.2.2.2.2
    refine zCw.use (zSp.ss [vr 0, vi x, vx 0, vx 0, vx 0, vx 0] rfl (w_D_party (d := 100) (by decide)) rfl rfl ?_) (by decide) (fun q μ' e => e)
    (try simp only [zit_e, Bool.and_eq_true, Bool.or_eq_true, Bool.not_eq_true', Bool.and_eq_false_iff, Bool.or_eq_false_iff, Bool.not_eq_false', zbe, zdt, zdf, zb2_p, zbp_0, zbp_1, zbp_inj, zbp_01, Bool.true_eq_false, Bool.false_eq_true, true_and, and_true, Decidable.not_not, Classical.not_not, implies_true, List.nil_append, List.cons_append, List.append_assoc, Option.some.injEq, Sum.inl.injEq, zSw_c, zSw_n]); (try simp only [zit_e, Bool.and_eq_true, Bool.or_eq_true, Bool.not_eq_true', Bool.and_eq_false_iff, Bool.or_eq_false_iff, Bool.not_eq_false', zbe, zdt, zdf, zb2_p, zbp_0, zbp_1, zbp_inj, zbp_01, Bool.true_eq_false, Bool.false_eq_true, true_and, and_true, Decidable.not_not, Classical.not_not, implies_true, List.nil_append, List.cons_append, List.append_assoc, Option.some.injEq, Sum.inl.injEq, zSw_c, zSw_n, zc_0, zc_1, zc_324, f_D_between, g_D_between]); (try simp only [zi_cs, zi_c0, zii_cs, zii_c0, zl_cs, zl_c0, zll_cs, zll_c0, zr_cs, zr_c0, zrr_cs, zrr_c0, zxs_cs, zxs_c0, zxx_cs, zxx_c0, zfree_c0, zfree_c1, zfree_cs, zfree_cz, zlong_i, zlong_r, zlong_x, zset_0, zset_s, true_and, and_true, Option.some.injEq, Sum.inl.injEq, Sum.inr.injEq, zb2_p, zbp_0, zbp_1, zbp_inj, zbp_01, Nat.zero_add, Nat.reduceAdd, implies_true, List.nil_append, List.cons_append, List.append_assoc, Int.not_lt, Int.not_le, Decidable.not_not, Int.zero_add, Int.reduceLE, Int.reduceLT, Int.reduceEq, Int.reduceNe, Int.reduceAdd, Int.reduceSub, Int.reduceMul, Int.reduceNeg, Int.reduceToNat, Nat.reduceMul, Nat.reduceLT, Nat.reduceEqDiff, and_self, ite_true, ite_false, zx1, zx2, zRecv, List.length_cons, List.length_nil, ne_eq, not_true_eq_false, not_false_eq_true, true_or, or_true, or_false, false_or, and_false, false_and, zf01, zf10, reduceCtorEq, zSw_c, zSw_n, zm_r, zit_T, zit_F, false_implies, true_implies, zc_0, zc_1, zc_324, f_D_between, g_D_between])
    refine zif (fun c => ⟨by rw [zit_f (by omega), zit_f (by omega)], HM.rf, KC.rf⟩) (fun c => ?_)
    have hg := pnA_in (Z := Z) (F := F) (A := A) (w := w) hc.1
    unfold pyA
    generalize hgg : pnA Z F A w = g at *
    refine zLoop.up Z.1.toNat (fun j ρ μ1 => ∃ (x5 : zV), ρ = [vr 0, vi x, vi (paN g j).1, vi (paN g j).2, vi j, x5] ∧ CF w μ μ1) ⟨vx 0, rfl, CF.rf hw⟩ ?_
    rintro j ρ μ1 hj ⟨x5, rfl, hF⟩
    have h1 := hc.f hF
    have e6 := h1.2.2.1.1
    (try simp only [zit_e, Bool.and_eq_true, Bool.or_eq_true, Bool.not_eq_true', Bool.and_eq_false_iff, Bool.or_eq_false_iff, Bool.not_eq_false', zbe, zdt, zdf, zb2_p, zbp_0, zbp_1, zbp_inj, zbp_01, Bool.true_eq_false, Bool.false_eq_true, true_and, and_true, Decidable.not_not, Classical.not_not, implies_true, List.nil_append, List.cons_append, List.append_assoc, Option.some.injEq, Sum.inl.injEq, zSw_c, zSw_n]); (try simp only [zit_e, Bool.and_eq_true, Bool.or_eq_true, Bool.not_eq_true', Bool.and_eq_false_iff, Bool.or_eq_false_iff, Bool.not_eq_false', zbe, zdt, zdf, zb2_p, zbp_0, zbp_1, zbp_inj, zbp_01, Bool.true_eq_false, Bool.false_eq_true, true_and, and_true, Decidable.not_not, Classical.not_not, implies_true, List.nil_append, List.cons_append, List.append_assoc, Option.some.injEq, Sum.inl.injEq, zSw_c, zSw_n, zc_0, zc_1, zc_324]); (try simp only [zi_cs, zi_c0, zii_cs, zii_c0, zl_cs, zl_c0, zll_cs, zll_c0, zr_cs, zr_c0, zrr_cs, zrr_c0, zxs_cs, zxs_c0, zxx_cs, zxx_c0, zfree_c0, zfree_c1, zfree_cs, zfree_cz, zlong_i, zlong_r, zlong_x, zset_0, zset_s, true_and, and_true, Option.some.injEq, Sum.inl.injEq, Sum.inr.injEq, zb2_p, zbp_0, zbp_1, zbp_inj, zbp_01, Nat.zero_add, Nat.reduceAdd, implies_true, List.nil_append, List.cons_append, List.append_assoc, Int.not_lt, Int.not_le, Decidable.not_not, Int.zero_add, Int.reduceLE, Int.reduceLT, Int.reduceEq, Int.reduceNe, Int.reduceAdd, Int.reduceSub, Int.reduceMul, Int.reduceNeg, Int.reduceToNat, Nat.reduceMul, Nat.reduceLT, Nat.reduceEqDiff, and_self, ite_true, ite_false, zx1, zx2, zRecv, List.length_cons, List.length_nil, ne_eq, not_true_eq_false, not_false_eq_true, true_or, or_true, or_false, false_or, and_false, false_and, zf01, zf10, reduceCtorEq, zSw_c, zSw_n, zm_r, zit_T, zit_F, false_implies, true_implies, zc_0, zc_1, zc_324])
    rw [e6]
    refine zif (fun c0 => ?_) (fun c0 => ?_)
    · refine zCw.use (q_D_partyNeeds (d := 8) (by decide) h1 (by omega)) (by omega) (fun q μ2 e => ?_)
      obtain ⟨rfl, e2⟩ := e
      rw [hgg]
      have es : paN g (j + 1) = if g j ≠ -1 ∧ ((paN g j).1 = -1 ∨ g j < (paN g j).2) then ((j : Int), g j) else paN g j := rfl
      refine ⟨_, rfl, ?_⟩
      refine zif (fun c1 => ?_) (fun c1 => ?_)
      · rw [if_pos c1] at es
        exact ⟨zI_s (by omega) (by omega), znx (P := fun j' => ∃ (x5 : zV), [vr 0, vi x, vi (j : Int), vi (g j), vi ((j : Int) + 1), vi (g j)] = [vr 0, vi x, vi (paN g j').1, vi (paN g j').2, vi j', x5] ∧ CF w μ μ2) (by omega) ⟨vi (g j), by rw [es]; rfl, hF.tr e2⟩⟩
      · rw [if_neg c1] at es
        exact ⟨zI_s (by omega) (by omega), znx (P := fun j' => ∃ (x5 : zV), [vr 0, vi x, vi (paN g j).1, vi (paN g j).2, vi ((j : Int) + 1), vi (g j)] = [vr 0, vi x, vi (paN g j').1, vi (paN g j').2, vi j', x5] ∧ CF w μ μ2) (by omega) ⟨vi (g j), by rw [es]; rfl, hF.tr e2⟩⟩
    · have e : j = Z.1.toNat := by omega
      subst e
      refine ⟨?_, hF.hm, hF.kc⟩
      by_cases c3 : x = 0
      · rw [zit_t c3, zit_t c3]
      · rw [zit_f c3, zit_f c3, zit_t (by omega)]) (fun μ Z F A w hc => by
    have hn := hc.1.1
    refine zCw.use (zSp.ss [vr 355, vi x, vx 0, vx 0, vx 0, vx 0, vx 0, vx 0] rfl (w_M_party (d := 100) (by decide)) rfl rfl ?_) (by decide) (fun q μ' e => e)
    (try simp only [zit_e, Bool.and_eq_true, Bool.or_eq_true, Bool.not_eq_true', Bool.and_eq_false_iff, Bool.or_eq_false_iff, Bool.not_eq_false', zbe, zdt, zdf, zb2_p, zbp_0, zbp_1, zbp_inj, zbp_01, Bool.true_eq_false, Bool.false_eq_true, true_and, and_true, Decidable.not_not, Classical.not_not, implies_true, List.nil_append, List.cons_append, List.append_assoc, Option.some.injEq, Sum.inl.injEq, zSw_c, zSw_n]); (try simp only [zit_e, Bool.and_eq_true, Bool.or_eq_true, Bool.not_eq_true', Bool.and_eq_false_iff, Bool.or_eq_false_iff, Bool.not_eq_false', zbe, zdt, zdf, zb2_p, zbp_0, zbp_1, zbp_inj, zbp_01, Bool.true_eq_false, Bool.false_eq_true, true_and, and_true, Decidable.not_not, Classical.not_not, implies_true, List.nil_append, List.cons_append, List.append_assoc, Option.some.injEq, Sum.inl.injEq, zSw_c, zSw_n, zc_355, f_M_lies, g_M_lies]); (try simp only [zi_cs, zi_c0, zii_cs, zii_c0, zl_cs, zl_c0, zll_cs, zll_c0, zr_cs, zr_c0, zrr_cs, zrr_c0, zxs_cs, zxs_c0, zxx_cs, zxx_c0, zfree_c0, zfree_c1, zfree_cs, zfree_cz, zlong_i, zlong_r, zlong_x, zset_0, zset_s, true_and, and_true, Option.some.injEq, Sum.inl.injEq, Sum.inr.injEq, zb2_p, zbp_0, zbp_1, zbp_inj, zbp_01, Nat.zero_add, Nat.reduceAdd, implies_true, List.nil_append, List.cons_append, List.append_assoc, Int.not_lt, Int.not_le, Decidable.not_not, Int.zero_add, Int.reduceLE, Int.reduceLT, Int.reduceEq, Int.reduceNe, Int.reduceAdd, Int.reduceSub, Int.reduceMul, Int.reduceNeg, Int.reduceToNat, Nat.reduceMul, Nat.reduceLT, Nat.reduceEqDiff, and_self, ite_true, ite_false, zx1, zx2, zRecv, List.length_cons, List.length_nil, ne_eq, not_true_eq_false, not_false_eq_true, true_or, or_true, or_false, false_or, and_false, false_and, zf01, zf10, reduceCtorEq, zSw_c, zSw_n, zm_r, zit_T, zit_F, false_implies, true_implies, zc_355, f_M_lies, g_M_lies])
    refine zif (fun c => ⟨by rw [zit_f (by omega), zit_f (by omega)], HC.rf, KM.rf⟩) (fun c => ?_)
    have hg := pnA_in (Z := Z) (F := F) (A := A) (w := w) hc.1
    have hgs : ∀ h, pnA Z F A w h = smN (fun v => ndA Z F A w v h 1) h Z.1.toNat 0 0 := fun h => rfl
    unfold pyA
    generalize hgg : pnA Z F A w = g at *
    refine zLoop.up Z.1.toNat (fun j ρ μ1 => ∃ (x5 x6 x7 : zV), ρ = [vr 355, vi x, vi (paN g j).1, vi (if (paN g j).1 = -1 then 1000000000 else (paN g j).2), vi j, x5, x6, x7] ∧ MF μ μ1) ⟨vx 0, vx 0, vx 0, rfl, MF.rf⟩ ?_
    rintro j ρ μ1 hj ⟨x5, x6, x7, rfl, hF⟩
    have h1 := hc.f hF
    have e6 := h1.2.2.1.1
    (try simp only [zit_e, Bool.and_eq_true, Bool.or_eq_true, Bool.not_eq_true', Bool.and_eq_false_iff, Bool.or_eq_false_iff, Bool.not_eq_false', zbe, zdt, zdf, zb2_p, zbp_0, zbp_1, zbp_inj, zbp_01, Bool.true_eq_false, Bool.false_eq_true, true_and, and_true, Decidable.not_not, Classical.not_not, implies_true, List.nil_append, List.cons_append, List.append_assoc, Option.some.injEq, Sum.inl.injEq, zSw_c, zSw_n]); (try simp only [zit_e, Bool.and_eq_true, Bool.or_eq_true, Bool.not_eq_true', Bool.and_eq_false_iff, Bool.or_eq_false_iff, Bool.not_eq_false', zbe, zdt, zdf, zb2_p, zbp_0, zbp_1, zbp_inj, zbp_01, Bool.true_eq_false, Bool.false_eq_true, true_and, and_true, Decidable.not_not, Classical.not_not, implies_true, List.nil_append, List.cons_append, List.append_assoc, Option.some.injEq, Sum.inl.injEq, zSw_c, zSw_n, zc_355, f_M_people, g_M_people]); (try simp only [zi_cs, zi_c0, zii_cs, zii_c0, zl_cs, zl_c0, zll_cs, zll_c0, zr_cs, zr_c0, zrr_cs, zrr_c0, zxs_cs, zxs_c0, zxx_cs, zxx_c0, zfree_c0, zfree_c1, zfree_cs, zfree_cz, zlong_i, zlong_r, zlong_x, zset_0, zset_s, true_and, and_true, Option.some.injEq, Sum.inl.injEq, Sum.inr.injEq, zb2_p, zbp_0, zbp_1, zbp_inj, zbp_01, Nat.zero_add, Nat.reduceAdd, implies_true, List.nil_append, List.cons_append, List.append_assoc, Int.not_lt, Int.not_le, Decidable.not_not, Int.zero_add, Int.reduceLE, Int.reduceLT, Int.reduceEq, Int.reduceNe, Int.reduceAdd, Int.reduceSub, Int.reduceMul, Int.reduceNeg, Int.reduceToNat, Nat.reduceMul, Nat.reduceLT, Nat.reduceEqDiff, and_self, ite_true, ite_false, zx1, zx2, zRecv, List.length_cons, List.length_nil, ne_eq, not_true_eq_false, not_false_eq_true, true_or, or_true, or_false, false_or, and_false, false_and, zf01, zf10, reduceCtorEq, zSw_c, zSw_n, zm_r, zit_T, zit_F, false_implies, true_implies, zc_355, f_M_people, g_M_people])
    rw [e6]
    have hpj := paN_in (g := g) j
    refine zif (fun c0 => ?_) (fun c0 => ?_)
    · have hb : ∀ y, -1 ≤ (fun v => ndA Z F A w v j 1) y ∧ (fun v => ndA Z F A w v j 1) y ≤ 160000 := fun y => ⟨ndA_in.1, Int.le_trans ndA_in.2 (by decide)⟩
      have hgj := hgs j
      generalize hf0 : (fun v => ndA Z F A w v j 1) = f at *
      have hfa : ∀ i, f i = ndA Z F A w i j 1 := fun i => by rw [← hf0]
      refine zLoop.up Z.1.toNat (fun i ρ μ2 => ∃ (s : Int) (x7 : zV), ρ = [vr 355, vi x, vi (paN g j).1, vi (zit ((paN g j).1 = -1) 1000000000 (paN g j).2), vi j, vi s, vi i, x7] ∧ MF μ μ2 ∧ ((s = 1000000000 ∧ g j = -1) ∨ ((0 ≤ s ∧ s ≤ 160000 * i) ∧ g j = smN f j (Z.1.toNat - i) s i))) ⟨0, x7, rfl, hF, Or.inr ⟨by decide, hgj⟩⟩ ?_
      rintro i ρ μ2 hi ⟨s, x7, rfl, hF2, hs⟩
      have h2 := hc.f hF2
      have e62 := h2.2.2.1.1
      (try simp only [zit_e, Bool.and_eq_true, Bool.or_eq_true, Bool.not_eq_true', Bool.and_eq_false_iff, Bool.or_eq_false_iff, Bool.not_eq_false', zbe, zdt, zdf, zb2_p, zbp_0, zbp_1, zbp_inj, zbp_01, Bool.true_eq_false, Bool.false_eq_true, true_and, and_true, Decidable.not_not, Classical.not_not, implies_true, List.nil_append, List.cons_append, List.append_assoc, Option.some.injEq, Sum.inl.injEq, zSw_c, zSw_n]); (try simp only [zit_e, Bool.and_eq_true, Bool.or_eq_true, Bool.not_eq_true', Bool.and_eq_false_iff, Bool.or_eq_false_iff, Bool.not_eq_false', zbe, zdt, zdf, zb2_p, zbp_0, zbp_1, zbp_inj, zbp_01, Bool.true_eq_false, Bool.false_eq_true, true_and, and_true, Decidable.not_not, Classical.not_not, implies_true, List.nil_append, List.cons_append, List.append_assoc, Option.some.injEq, Sum.inl.injEq, zSw_c, zSw_n, zc_355, f_M_people, g_M_people]); (try simp only [zi_cs, zi_c0, zii_cs, zii_c0, zl_cs, zl_c0, zll_cs, zll_c0, zr_cs, zr_c0, zrr_cs, zrr_c0, zxs_cs, zxs_c0, zxx_cs, zxx_c0, zfree_c0, zfree_c1, zfree_cs, zfree_cz, zlong_i, zlong_r, zlong_x, zset_0, zset_s, true_and, and_true, Option.some.injEq, Sum.inl.injEq, Sum.inr.injEq, zb2_p, zbp_0, zbp_1, zbp_inj, zbp_01, Nat.zero_add, Nat.reduceAdd, implies_true, List.nil_append, List.cons_append, List.append_assoc, Int.not_lt, Int.not_le, Decidable.not_not, Int.zero_add, Int.reduceLE, Int.reduceLT, Int.reduceEq, Int.reduceNe, Int.reduceAdd, Int.reduceSub, Int.reduceMul, Int.reduceNeg, Int.reduceToNat, Nat.reduceMul, Nat.reduceLT, Nat.reduceEqDiff, and_self, ite_true, ite_false, zx1, zx2, zRecv, List.length_cons, List.length_nil, ne_eq, not_true_eq_false, not_false_eq_true, true_or, or_true, or_false, false_or, and_false, false_and, zf01, zf10, reduceCtorEq, zSw_c, zSw_n, zm_r, zit_T, zit_F, false_implies, true_implies, zc_355, f_M_people, g_M_people])
      refine zif (fun c1 => ?_) (fun c1 => ?_)
      · have c1a := of_decide_eq_false c1.1
        rw [e62] at c1a
        rcases hs with ⟨hs, -⟩ | ⟨hs, hf⟩
        · omega
        rw [smN_s (by omega)] at hf
        refine zif (fun c2 => ?_) (fun c2 => ?_)
        · rw [zit_t c2] at hf
          exact ⟨zI_s (by omega) (by omega), Z.1.toNat - (i + 1), by omega, i + 1, rfl, by omega, s, _, rfl, hF2, Or.inr ⟨by omega, hf⟩⟩
        · rw [zit_f c2] at hf
          refine zCw.use (q_M_needOf (d := 49) (by decide) h2 (by omega) (by omega)) (by omega) (fun q μ3 e => ?_)
          obtain ⟨rfl, e2⟩ := e
          have hb1 := hb i
          rw [← hfa]
          refine ⟨_, rfl, ?_⟩
          by_cases c3 : f i = -1
          · rw [zit_t c3] at hf ⊢
            exact ⟨fun q => absurd c3 q, zI_s (by omega) (by omega), Z.1.toNat - (i + 1), by omega, i + 1, rfl, by omega, _, _, rfl, hF2.tr e2, Or.inl ⟨rfl, hf⟩⟩
          · rw [zit_f c3] at hf ⊢
            exact ⟨fun _ => zI_s (by omega) (by omega), zI_s (by omega) (by omega), Z.1.toNat - (i + 1), by omega, i + 1, rfl, by omega, _, _, rfl, hF2.tr e2, Or.inr ⟨by omega, hf⟩⟩
      · have c1 : ¬ ((i : Int) < Z.1 ∧ s < 1000000000) := fun q => c1 ⟨decide_eq_false (by rw [e62]; omega), q.2⟩
        have es : paN g (j + 1) = if g j ≠ -1 ∧ ((paN g j).1 = -1 ∨ g j < (paN g j).2) then ((j : Int), g j) else paN g j := rfl
        have hgj1 := hg j
        have hs2 : (s = 1000000000 ∧ g j = -1) ∨ (0 ≤ s ∧ s = g j) := by
          rcases hs with hs | ⟨hs, hf⟩
          · exact Or.inl hs
          · have : i = Z.1.toNat := by omega
            rw [this, Nat.sub_self] at hf
            exact Or.inr ⟨hs.1, hf.symm⟩
        refine zif (fun c2 => ?_) (fun c2 => ?_)
        · have en : ¬ (g j ≠ -1 ∧ ((paN g j).1 = -1 ∨ g j < (paN g j).2)) := by
            rintro ⟨q1, q2⟩
            by_cases q3 : (paN g j).1 = -1
            · rw [zit_t q3] at c2
              omega
            · rw [zit_f q3] at c2
              omega
          rw [if_neg en] at es
          exact ⟨zI_s (by omega) (by omega), Z.1.toNat - (j + 1), by omega, j + 1, rfl, by omega, _, _, _, by rw [es]; rfl, hF2⟩
        · have en : g j ≠ -1 ∧ ((paN g j).1 = -1 ∨ g j < (paN g j).2) := by
            by_cases q3 : (paN g j).1 = -1
            · rw [zit_t q3] at c2
              omega
            · rw [zit_f q3] at c2
              have := hg (paN g j).1
              omega
          rw [if_pos en] at es
          have e3 : s = g j := by omega
          exact ⟨zI_s (by omega) (by omega), Z.1.toNat - (j + 1), by omega, j + 1, rfl, by omega, vi s, vi i, x7, by rw [es]; simp only []; rw [zit_f (by omega), e3]; rfl, hF2⟩
    · have e : j = Z.1.toNat := by omega
      subst e
      refine ⟨?_, hF.hc, hF.km⟩
      rcases hpj with ⟨p1, p2⟩ | ⟨p1, p2, p3⟩
      · rw [zit_t p1, p1, p2]
        unfold zit
        repeat' split
        all_goals rfl
      · rw [zit_f (by omega), zit_f (p := (paN g Z.1.toNat).1 = -1) (by omega)]
        by_cases c3 : x = 0
        · rw [zit_t c3, zit_t c3]
        · rw [zit_f c3, zit_f c3, zit_t (by omega)])

