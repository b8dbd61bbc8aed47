/-! the reference: how a debt grows, for what it is sold -/
theorem odS_M {d : Nat} (hd : 47 ≤ d) {μ μ1 : zMem} {head high k : Int} {F : Option (List Cls)} {W w : Int → Int} {K : zRo} (hh : head = 2 ∧ high = 99 ∨ head = 3 ∧ high = 9999) (hF : FoM μ F) (e1 : ∀ i : Int, 0 ≤ i → i < 10 → μ1 367 i = W i) (e2 : zfc [367] μ μ1) (hWb : ∀ i : Int, 0 ≤ i → i < 60 → -1000000 ≤ W i ∧ W i ≤ 1000000) (ha : 0 ≤ odD (head - 1) k ∧ odD (head - 1) k ≤ 1000000) (hk : ∀ μ2, ((∀ j : Int, j ≠ 20 → j ≠ 21 → j ≠ 22 → j ≠ 23 → μ2 355 j = μ 355 j) ∧ zfc [355, 367] μ μ2) → K (some (vi (odS W F (head - 1) k))) μ2) : zCw d y_M_tells [vr 355, vi head, vi high, vi (odD (head - 1) k)] μ1 K := by
  have frq : ∀ {μ2 : zMem}, FT μ1 μ2 → (∀ j : Int, j ≠ 20 → j ≠ 21 → j ≠ 22 → j ≠ 23 → μ2 355 j = μ 355 j) ∧ zfc [355, 367] μ μ2 := by
    intro μ2 h
    refine ⟨fun j a1 a2 a3 a4 => ?_, (e2.tr h.1).mo (by simp)⟩
    rw [h.2 j a1 a2 a3 a4, e2 355 (by decide)]
  have p1 : μ1 357 = μ 357 := e2 357 (by decide)
  rcases hF with ⟨h11, rfl⟩ | ⟨f, Q, cls, code, h11, hf, rfl, hL, hP, hM⟩
  · refine zCw.use (q_M_tells0 (d := 46) (Nat.le_refl _) (by rw [p1]; exact h11)) (by omega) (fun q μ2 e => ?_)
    obtain ⟨rfl, rfl⟩ := e
    exact hk _ (frq FT.rf)
  · refine zCw.use (q_M_tells1 (d := 46) (Nat.le_refl _) (by rw [p1]; exact h11) hf (by rw [p1]; exact hL) hP e1 hWb (by omega) (by omega) (by omega)) (by omega) (fun q μ2 e => ?_)
    obtain ⟨rfl, e3⟩ := e
    have : tlV high (odD (head - 1) k) (lstT W (head - 1) cls) = odS W (some cls) (head - 1) k := by
      unfold odS
      simp only
      rw [show (if head - 1 = 1 then (99 : Int) else 9999) = high by split <;> omega]
    rw [this]
    exact hk _ (frq e3)
theorem q_M_growsBy {d : Nat} (hd : 48 ≤ d) {μ : zMem} {k : Int} {F : Option (List Cls)} {W : Int → Int} (hdb : okT (μ 357 71) (fM μ)) (hk : 0 ≤ k ∧ k < μ 357 71) (hday : 0 ≤ μ 357 72 ∧ μ 357 72 ≤ 999) (hF : FoM μ F) (hW : ∃ w, W = fillW (μ 357 (7 + 4 * k)) (μ 357 (7 + 4 * k + 1)) (owL (μ 357 (7 + 4 * k)) (μ 357 (7 + 4 * k + 1)) (dbM μ)) (owL (μ 357 (7 + 4 * k + 1)) (μ 357 (7 + 4 * k)) (dbM μ)) (μ 357 (73 + 2 * μ 357 (7 + 4 * k))) (μ 357 (74 + 2 * μ 357 (7 + 4 * k))) (μ 357 (7 + 4 * k + 2)) (μ 357 72 - μ 357 (7 + 4 * k + 3)) (μ 357 72) (μ 357 151) w) (hWb : ∀ i : Int, 0 ≤ i → i < 60 → -1000000 ≤ W i ∧ W i ≤ 1000000) : zSp d 0 0 y_M_growsBy zT0 [vr 355, vi k] μ zT0 (fun r μ' => r = some (vi (odS W F 1 (μ 357 (7 + 4 * k + 2)))) ∧ (∀ j : Int, j ≠ 20 → j ≠ 21 → j ≠ 22 → j ≠ 23 → μ' 355 j = μ 355 j) ∧ zfc [355, 367] μ μ') := by
  refine zSp.ss [vr 355, vi k] rfl (w_M_growsBy (Nat.le_trans (by decide) hd)) rfl rfl ?_
  (try simp only [zit_e, Bool.and_eq_true, Bool.or_eq_true, Bool.not_eq_true', Bool.and_eq_false_iff, Bool.or_eq_false_iff, Bool.not_eq_false', zbe, zdt, zdf, zb2_p, zbp_0, zbp_1, zbp_inj, zbp_01, Bool.true_eq_false, Bool.false_eq_true, true_and, and_true, Decidable.not_not, Classical.not_not, implies_true, List.nil_append, List.cons_append, List.append_assoc, Option.some.injEq, Sum.inl.injEq, zSw_c, zSw_n]); (try simp only [zit_e, Bool.and_eq_true, Bool.or_eq_true, Bool.not_eq_true', Bool.and_eq_false_iff, Bool.or_eq_false_iff, Bool.not_eq_false', zbe, zdt, zdf, zb2_p, zbp_0, zbp_1, zbp_inj, zbp_01, Bool.true_eq_false, Bool.false_eq_true, true_and, and_true, Decidable.not_not, Classical.not_not, implies_true, List.nil_append, List.cons_append, List.append_assoc, Option.some.injEq, Sum.inl.injEq, zSw_c, zSw_n, zc_355]); (try simp only [zi_cs, zi_c0, zii_cs, zii_c0, zl_cs, zl_c0, zll_cs, zll_c0, zr_cs, zr_c0, zrr_cs, zrr_c0, zxs_cs, zxs_c0, zxx_cs, zxx_c0, zfree_c0, zfree_c1, zfree_cs, zfree_cz, zlong_i, zlong_r, zlong_x, zset_0, zset_s, true_and, and_true, Option.some.injEq, Sum.inl.injEq, Sum.inr.injEq, zb2_p, zbp_0, zbp_1, zbp_inj, zbp_01, Nat.zero_add, Nat.reduceAdd, implies_true, List.nil_append, List.cons_append, List.append_assoc, Int.not_lt, Int.not_le, Decidable.not_not, Int.zero_add, Int.reduceLE, Int.reduceLT, Int.reduceEq, Int.reduceNe, Int.reduceAdd, Int.reduceSub, Int.reduceMul, Int.reduceNeg, Int.reduceToNat, Nat.reduceMul, Nat.reduceLT, Nat.reduceEqDiff, and_self, ite_true, ite_false, zx1, zx2, zRecv, List.length_cons, List.length_nil, ne_eq, not_true_eq_false, not_false_eq_true, true_or, or_true, or_false, false_or, and_false, false_and, zf01, zf10, reduceCtorEq, zSw_c, zSw_n, zm_r, zit_T, zit_F, false_implies, true_implies, zc_355])
  refine zCw.use (q_M_setsDebt (d := 4) (Nat.le_refl _) hdb hk hday) (by omega) (fun q μ1 e => ?_)
  obtain ⟨rfl, e1, e2⟩ := e
  obtain ⟨w, hW⟩ := hW
  refine ⟨rfl, ?_⟩
  exact odS_M (head := 2) (k := μ 357 (7 + 4 * k + 2)) (w := w) (by omega) (Or.inl ⟨rfl, rfl⟩) hF (fun i h0 h1 => by rw [e1 w i h0 h1, hW]) e2 hWb (by rw [show odD (2 - 1) (μ 357 (7 + 4 * k + 2)) = 0 from rfl]; decide) (fun μ2 f => ⟨_, rfl, rfl, f⟩)
theorem q_M_soldFor {d : Nat} (hd : 48 ≤ d) {μ : zMem} {k : Int} {F : Option (List Cls)} {W : Int → Int} (hdb : okT (μ 357 71) (fM μ)) (hk : 0 ≤ k ∧ k < μ 357 71) (hday : 0 ≤ μ 357 72 ∧ μ 357 72 ≤ 999) (hF : FoM μ F) (hW : ∃ w, W = fillW (μ 357 (7 + 4 * k)) (μ 357 (7 + 4 * k + 1)) (owL (μ 357 (7 + 4 * k)) (μ 357 (7 + 4 * k + 1)) (dbM μ)) (owL (μ 357 (7 + 4 * k + 1)) (μ 357 (7 + 4 * k)) (dbM μ)) (μ 357 (73 + 2 * μ 357 (7 + 4 * k))) (μ 357 (74 + 2 * μ 357 (7 + 4 * k))) (μ 357 (7 + 4 * k + 2)) (μ 357 72 - μ 357 (7 + 4 * k + 3)) (μ 357 72) (μ 357 151) w) (hWb : ∀ i : Int, 0 ≤ i → i < 60 → -1000000 ≤ W i ∧ W i ≤ 1000000) : zSp d 0 0 y_M_soldFor zT0 [vr 355, vi k] μ zT0 (fun r μ' => r = some (vi (odS W F 2 (μ 357 (7 + 4 * k + 2)))) ∧ (∀ j : Int, j ≠ 20 → j ≠ 21 → j ≠ 22 → j ≠ 23 → μ' 355 j = μ 355 j) ∧ zfc [355, 367] μ μ') := by
  refine zSp.ss [vr 355, vi k] rfl (w_M_soldFor (Nat.le_trans (by decide) hd)) rfl rfl ?_
  (try simp only [zit_e, Bool.and_eq_true, Bool.or_eq_true, Bool.not_eq_true', Bool.and_eq_false_iff, Bool.or_eq_false_iff, Bool.not_eq_false', zbe, zdt, zdf, zb2_p, zbp_0, zbp_1, zbp_inj, zbp_01, Bool.true_eq_false, Bool.false_eq_true, true_and, and_true, Decidable.not_not, Classical.not_not, implies_true, List.nil_append, List.cons_append, List.append_assoc, Option.some.injEq, Sum.inl.injEq, zSw_c, zSw_n]); (try simp only [zit_e, Bool.and_eq_true, Bool.or_eq_true, Bool.not_eq_true', Bool.and_eq_false_iff, Bool.or_eq_false_iff, Bool.not_eq_false', zbe, zdt, zdf, zb2_p, zbp_0, zbp_1, zbp_inj, zbp_01, Bool.true_eq_false, Bool.false_eq_true, true_and, and_true, Decidable.not_not, Classical.not_not, implies_true, List.nil_append, List.cons_append, List.append_assoc, Option.some.injEq, Sum.inl.injEq, zSw_c, zSw_n, zc_355]); (try simp only [zi_cs, zi_c0, zii_cs, zii_c0, zl_cs, zl_c0, zll_cs, zll_c0, zr_cs, zr_c0, zrr_cs, zrr_c0, zxs_cs, zxs_c0, zxx_cs, zxx_c0, zfree_c0, zfree_c1, zfree_cs, zfree_cz, zlong_i, zlong_r, zlong_x, zset_0, zset_s, true_and, and_true, Option.some.injEq, Sum.inl.injEq, Sum.inr.injEq, zb2_p, zbp_0, zbp_1, zbp_inj, zbp_01, Nat.zero_add, Nat.reduceAdd, implies_true, List.nil_append, List.cons_append, List.append_assoc, Int.not_lt, Int.not_le, Decidable.not_not, Int.zero_add, Int.reduceLE, Int.reduceLT, Int.reduceEq, Int.reduceNe, Int.reduceAdd, Int.reduceSub, Int.reduceMul, Int.reduceNeg, Int.reduceToNat, Nat.reduceMul, Nat.reduceLT, Nat.reduceEqDiff, and_self, ite_true, ite_false, zx1, zx2, zRecv, List.length_cons, List.length_nil, ne_eq, not_true_eq_false, not_false_eq_true, true_or, or_true, or_false, false_or, and_false, false_and, zf01, zf10, reduceCtorEq, zSw_c, zSw_n, zm_r, zit_T, zit_F, false_implies, true_implies, zc_355])
  have hn := hdb.1
  have hok : okd (fM μ k) := hdb.2 k hk.1 hk.2
  have hok1 : (0 ≤ μ 357 (7 + 4 * k) ∧ μ 357 (7 + 4 * k) < 7) ∧ (0 ≤ μ 357 (7 + 4 * k + 1) ∧ μ 357 (7 + 4 * k + 1) < 7) ∧ μ 357 (7 + 4 * k) ≠ μ 357 (7 + 4 * k + 1) ∧ (1 ≤ μ 357 (7 + 4 * k + 2) ∧ μ 357 (7 + 4 * k + 2) ≤ 9999) ∧ 0 ≤ μ 357 (7 + 4 * k + 3) ∧ μ 357 (7 + 4 * k + 3) ≤ 999 := hok
  refine zCw.use (q_M_setsDebt (d := 4) (Nat.le_refl _) hdb hk hday) (by omega) (fun q μ1 e => ?_)
  obtain ⟨rfl, e1, e2⟩ := e
  obtain ⟨w, hW⟩ := hW
  have p1 : μ1 357 = μ 357 := e2 357 (by decide)
  rw [p1]
  refine ⟨rfl, by ((try simp only [zI_e]); (first | done | omega | skip)), ?_⟩
  have ha : odD (3 - 1) (μ 357 (7 + 4 * k + 2)) = μ 357 (7 + 4 * k + 2) := rfl
  have := odS_M (d := d) (head := 3) (high := 9999) (k := μ 357 (7 + 4 * k + 2)) (w := w) (K := fun q μ2 => ∃ n, q = some (vi n) ∧ n = odS W F 2 (μ 357 (7 + 4 * k + 2)) ∧ (∀ j : Int, j ≠ 20 → j ≠ 21 → j ≠ 22 → j ≠ 23 → μ2 355 j = μ 355 j) ∧ zfc [355, 367] μ μ2) (by omega) (Or.inr ⟨rfl, rfl⟩) hF (fun i h0 h1 => by rw [e1 w i h0 h1, hW]) e2 hWb (by rw [ha]; omega) (fun μ2 f => ⟨_, rfl, rfl, f⟩)
  rw [ha] at this
  exact this

