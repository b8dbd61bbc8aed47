/-! the reference lays what it read down -/
def y_M_lays : zMt := (⟨"DebtDoorsModel", "lays", "(I)V"⟩, prog_14_method_59_code, 3, none)
theorem d_M_lays_0 : decode prog_14_method_59_code 0 = .ok (.aload_n 0, 1) := by decide +kernel
theorem d_M_lays_1 : decode prog_14_method_59_code 1 = .ok (.getfield 24, 3) := by decide +kernel
theorem d_M_lays_4 : decode prog_14_method_59_code 4 = .ok (.sipush 157, 3) := by decide +kernel
theorem d_M_lays_7 : decode prog_14_method_59_code 7 = .ok (.iload_n 1, 1) := by decide +kernel
theorem d_M_lays_8 : decode prog_14_method_59_code 8 = .ok (.iadd, 1) := by decide +kernel
theorem d_M_lays_9 : decode prog_14_method_59_code 9 = .ok (.aload_n 0, 1) := by decide +kernel
theorem d_M_lays_10 : decode prog_14_method_59_code 10 = .ok (.getfield 187, 3) := by decide +kernel
theorem d_M_lays_13 : decode prog_14_method_59_code 13 = .ok (.iastore, 1) := by decide +kernel
theorem d_M_lays_14 : decode prog_14_method_59_code 14 = .ok (.iconst 0, 1) := by decide +kernel
theorem d_M_lays_15 : decode prog_14_method_59_code 15 = .ok (.istore_n 2, 1) := by decide +kernel
theorem d_M_lays_16 : decode prog_14_method_59_code 16 = .ok (.iload_n 2, 1) := by decide +kernel
theorem d_M_lays_17 : decode prog_14_method_59_code 17 = .ok (.aload_n 0, 1) := by decide +kernel
theorem d_M_lays_18 : decode prog_14_method_59_code 18 = .ok (.getfield 187, 3) := by decide +kernel
theorem d_M_lays_21 : decode prog_14_method_59_code 21 = .ok (.if_icmp .ge 53, 3) := by decide +kernel
theorem d_M_lays_24 : decode prog_14_method_59_code 24 = .ok (.aload_n 0, 1) := by decide +kernel
theorem d_M_lays_25 : decode prog_14_method_59_code 25 = .ok (.getfield 24, 3) := by decide +kernel
theorem d_M_lays_28 : decode prog_14_method_59_code 28 = .ok (.sipush 164, 3) := by decide +kernel
theorem d_M_lays_31 : decode prog_14_method_59_code 31 = .ok (.sipush 400, 3) := by decide +kernel
theorem d_M_lays_34 : decode prog_14_method_59_code 34 = .ok (.iload_n 1, 1) := by decide +kernel
theorem d_M_lays_35 : decode prog_14_method_59_code 35 = .ok (.imul, 1) := by decide +kernel
theorem d_M_lays_36 : decode prog_14_method_59_code 36 = .ok (.iadd, 1) := by decide +kernel
theorem d_M_lays_37 : decode prog_14_method_59_code 37 = .ok (.iload_n 2, 1) := by decide +kernel
theorem d_M_lays_38 : decode prog_14_method_59_code 38 = .ok (.iadd, 1) := by decide +kernel
theorem d_M_lays_39 : decode prog_14_method_59_code 39 = .ok (.aload_n 0, 1) := by decide +kernel
theorem d_M_lays_40 : decode prog_14_method_59_code 40 = .ok (.getfield 50, 3) := by decide +kernel
theorem d_M_lays_43 : decode prog_14_method_59_code 43 = .ok (.iload_n 2, 1) := by decide +kernel
theorem d_M_lays_44 : decode prog_14_method_59_code 44 = .ok (.iaload, 1) := by decide +kernel
theorem d_M_lays_45 : decode prog_14_method_59_code 45 = .ok (.iastore, 1) := by decide +kernel
theorem d_M_lays_46 : decode prog_14_method_59_code 46 = .ok (.aload_n 0, 1) := by decide +kernel
theorem d_M_lays_47 : decode prog_14_method_59_code 47 = .ok (.getfield 24, 3) := by decide +kernel
theorem d_M_lays_50 : decode prog_14_method_59_code 50 = .ok (.sipush 2964, 3) := by decide +kernel
theorem d_M_lays_53 : decode prog_14_method_59_code 53 = .ok (.sipush 400, 3) := by decide +kernel
theorem d_M_lays_56 : decode prog_14_method_59_code 56 = .ok (.iload_n 1, 1) := by decide +kernel
theorem d_M_lays_57 : decode prog_14_method_59_code 57 = .ok (.imul, 1) := by decide +kernel
theorem d_M_lays_58 : decode prog_14_method_59_code 58 = .ok (.iadd, 1) := by decide +kernel
theorem d_M_lays_59 : decode prog_14_method_59_code 59 = .ok (.iload_n 2, 1) := by decide +kernel
theorem d_M_lays_60 : decode prog_14_method_59_code 60 = .ok (.iadd, 1) := by decide +kernel
theorem d_M_lays_61 : decode prog_14_method_59_code 61 = .ok (.aload_n 0, 1) := by decide +kernel
theorem d_M_lays_62 : decode prog_14_method_59_code 62 = .ok (.getfield 53, 3) := by decide +kernel
theorem d_M_lays_65 : decode prog_14_method_59_code 65 = .ok (.iload_n 2, 1) := by decide +kernel
theorem d_M_lays_66 : decode prog_14_method_59_code 66 = .ok (.iaload, 1) := by decide +kernel
theorem d_M_lays_67 : decode prog_14_method_59_code 67 = .ok (.iastore, 1) := by decide +kernel
theorem d_M_lays_68 : decode prog_14_method_59_code 68 = .ok (.iinc 2 1, 3) := by decide +kernel
theorem d_M_lays_71 : decode prog_14_method_59_code 71 = .ok (.goto (-55), 3) := by decide +kernel
theorem d_M_lays_74 : decode prog_14_method_59_code 74 = .ok (.return_, 1) := by decide +kernel
def w_M_lays {d : Nat} (hd : 1 ≤ d) := (show SS ("DebtDoorsModel", prog_14_method_59_code, 3) (none) d 0 0 0 0 _ from (sS (p1 := 14) (sAs (rFr fl_M_24 nk_12_2 (rAn 0 d_M_lays_0 rfl) d_M_lays_1) (r2 o_add (rSi d_M_lays_4 rfl) (rIn 1 d_M_lays_7 rfl) d_M_lays_8) (xE (rF 16 fl_M_187 nk_12_16 (rAn 0 d_M_lays_9 rfl) d_M_lays_10 rfl)) d_M_lays_13) (sS (p1 := 74) (sS (p1 := 16) (sIn 2 (xE (rI d_M_lays_14 rfl)) d_M_lays_15 rfl (by decide)) (sLp (ps := 68) (tt := 24) (pn := 74) (p1 := 0) (p2 := 0) (xC (rNot (rJ2 (tgt := 74) j_ge (rIn 2 d_M_lays_16 rfl) (rF 16 fl_M_187 nk_12_16 (rAn 0 d_M_lays_17 rfl) d_M_lays_18 rfl) d_M_lays_21 (by decide)))) (sS (p1 := 46) (sAs (rFr fl_M_24 nk_12_2 (rAn 0 d_M_lays_24 rfl) d_M_lays_25) (r2 o_add (r2 o_add (rSi d_M_lays_28 rfl) (r2 o_mul (rSi d_M_lays_31 rfl) (rIn 1 d_M_lays_34 rfl) d_M_lays_35) d_M_lays_36) (rIn 2 d_M_lays_37 rfl) d_M_lays_38) (xE (rIa (rFr fl_M_50 nk_12_13 (rAn 0 d_M_lays_39 rfl) d_M_lays_40) (rIn 2 d_M_lays_43 rfl) d_M_lays_44)) d_M_lays_45) (sAs (rFr fl_M_24 nk_12_2 (rAn 0 d_M_lays_46 rfl) d_M_lays_47) (r2 o_add (r2 o_add (rSi d_M_lays_50 rfl) (r2 o_mul (rSi d_M_lays_53 rfl) (rIn 1 d_M_lays_56 rfl) d_M_lays_57) d_M_lays_58) (rIn 2 d_M_lays_59 rfl) d_M_lays_60) (xE (rIa (rFr fl_M_53 nk_12_14 (rAn 0 d_M_lays_61 rfl) d_M_lays_62) (rIn 2 d_M_lays_65 rfl) d_M_lays_66)) d_M_lays_67)) (sGo (pn := 16) (sInc d_M_lays_68 (by decide)) d_M_lays_71 (by decide)))) (sRv d_M_lays_74 rfl))))
theorem q_M_lays {d : Nat} (hd : 1 ≤ d) {μ : zMem} {x : Int} {Q : zTk} (hx : 0 ≤ x ∧ x ≤ 6) (hQ : okK Q) (hK : TKs Q μ) : zSp d 0 0 y_M_lays zT0 [vr 355, vi x] μ zT0 (fun r μ' => r = none ∧ LwM (μ' 357) x Q ∧ (∀ i : Int, i ≠ 157 + x → ¬ (164 + 400 * x ≤ i ∧ i < 564 + 400 * x) → ¬ (2964 + 400 * x ≤ i ∧ i < 3364 + 400 * x) → μ' 357 i = μ 357 i) ∧ zfc [357] μ μ') := by
  refine zSp.ss [vr 355, vi x, vx 0] rfl (w_M_lays (Nat.le_trans (by decide) hd)) rfl rfl ?_
  (try simp only [zit_e, Bool.and_eq_true, Bool.or_eq_true, Bool.not_eq_true', Bool.and_eq_false_iff, Bool.or_eq_false_iff, Bool.not_eq_false', zbe, zdt, zdf, zb2_p, zbp_0, zbp_1, zbp_inj, zbp_01, Bool.true_eq_false, Bool.false_eq_true, true_and, and_true, Decidable.not_not, Classical.not_not, implies_true, List.nil_append, List.cons_append, List.append_assoc, Option.some.injEq, Sum.inl.injEq, zSw_c, zSw_n]); (try simp only [zit_e, Bool.and_eq_true, Bool.or_eq_true, Bool.not_eq_true', Bool.and_eq_false_iff, Bool.or_eq_false_iff, Bool.not_eq_false', zbe, zdt, zdf, zb2_p, zbp_0, zbp_1, zbp_inj, zbp_01, Bool.true_eq_false, Bool.false_eq_true, true_and, and_true, Decidable.not_not, Classical.not_not, implies_true, List.nil_append, List.cons_append, List.append_assoc, Option.some.injEq, Sum.inl.injEq, zSw_c, zSw_n, zc_355]); (try simp only [zi_cs, zi_c0, zii_cs, zii_c0, zl_cs, zl_c0, zll_cs, zll_c0, zr_cs, zr_c0, zrr_cs, zrr_c0, zxs_cs, zxs_c0, zxx_cs, zxx_c0, zfree_c0, zfree_c1, zfree_cs, zfree_cz, zlong_i, zlong_r, zlong_x, zset_0, zset_s, true_and, and_true, Option.some.injEq, Sum.inl.injEq, Sum.inr.injEq, zb2_p, zbp_0, zbp_1, zbp_inj, zbp_01, Nat.zero_add, Nat.reduceAdd, implies_true, List.nil_append, List.cons_append, List.append_assoc, Int.not_lt, Int.not_le, Decidable.not_not, Int.zero_add, Int.reduceLE, Int.reduceLT, Int.reduceEq, Int.reduceNe, Int.reduceAdd, Int.reduceSub, Int.reduceMul, Int.reduceNeg, Int.reduceToNat, Nat.reduceMul, Nat.reduceLT, Nat.reduceEqDiff, and_self, ite_true, ite_false, zx1, zx2, zRecv, List.length_cons, List.length_nil, ne_eq, not_true_eq_false, not_false_eq_true, true_or, or_true, or_false, false_or, and_false, false_and, zf01, zf10, reduceCtorEq, zSw_c, zSw_n, zm_r, zit_T, zit_F, false_implies, true_implies, zc_355])
  have hN4 := hQ.1
  rw [hK.1]
  refine ⟨zI_s (by omega) (by omega), by omega, by omega, ?_⟩
  refine zLoop.up Q.2.2.2 (fun j ρ μ1 => ρ = [vr 355, vi x, vi j] ∧ μ1 357 (157 + x) = (Q.2.2.2 : Int) ∧ (∀ u : Nat, u < j → μ1 357 (164 + (400 * x + u)) = Q.1 u ∧ μ1 357 (2964 + (400 * x + u)) = Q.2.1 u) ∧ (∀ i : Int, i ≠ 157 + x → ¬ (164 + 400 * x ≤ i ∧ i < 564 + 400 * x) → ¬ (2964 + 400 * x ≤ i ∧ i < 3364 + 400 * x) → μ1 357 i = μ 357 i) ∧ zfc [357] μ μ1) ⟨rfl, ?_, fun u hu => absurd hu (Nat.not_lt_zero u), fun i a1 a2 a3 => ?_, ?_⟩ ?_
  · rw [zm_s]
  · exact zm_j a1
  · exact zfc.rf.zm (by decide)
  rintro j ρ μ1 hj ⟨rfl, h0, h1, h2, hF⟩
  (try simp only [zit_e, Bool.and_eq_true, Bool.or_eq_true, Bool.not_eq_true', Bool.and_eq_false_iff, Bool.or_eq_false_iff, Bool.not_eq_false', zbe, zdt, zdf, zb2_p, zbp_0, zbp_1, zbp_inj, zbp_01, Bool.true_eq_false, Bool.false_eq_true, true_and, and_true, Decidable.not_not, Classical.not_not, implies_true, List.nil_append, List.cons_append, List.append_assoc, Option.some.injEq, Sum.inl.injEq, zSw_c, zSw_n]); (try simp only [zit_e, Bool.and_eq_true, Bool.or_eq_true, Bool.not_eq_true', Bool.and_eq_false_iff, Bool.or_eq_false_iff, Bool.not_eq_false', zbe, zdt, zdf, zb2_p, zbp_0, zbp_1, zbp_inj, zbp_01, Bool.true_eq_false, Bool.false_eq_true, true_and, and_true, Decidable.not_not, Classical.not_not, implies_true, List.nil_append, List.cons_append, List.append_assoc, Option.some.injEq, Sum.inl.injEq, zSw_c, zSw_n, zc_355]); (try simp only [zi_cs, zi_c0, zii_cs, zii_c0, zl_cs, zl_c0, zll_cs, zll_c0, zr_cs, zr_c0, zrr_cs, zrr_c0, zxs_cs, zxs_c0, zxx_cs, zxx_c0, zfree_c0, zfree_c1, zfree_cs, zfree_cz, zlong_i, zlong_r, zlong_x, zset_0, zset_s, true_and, and_true, Option.some.injEq, Sum.inl.injEq, Sum.inr.injEq, zb2_p, zbp_0, zbp_1, zbp_inj, zbp_01, Nat.zero_add, Nat.reduceAdd, implies_true, List.nil_append, List.cons_append, List.append_assoc, Int.not_lt, Int.not_le, Decidable.not_not, Int.zero_add, Int.reduceLE, Int.reduceLT, Int.reduceEq, Int.reduceNe, Int.reduceAdd, Int.reduceSub, Int.reduceMul, Int.reduceNeg, Int.reduceToNat, Nat.reduceMul, Nat.reduceLT, Nat.reduceEqDiff, and_self, ite_true, ite_false, zx1, zx2, zRecv, List.length_cons, List.length_nil, ne_eq, not_true_eq_false, not_false_eq_true, true_or, or_true, or_false, false_or, and_false, false_and, zf01, zf10, reduceCtorEq, zSw_c, zSw_n, zm_r, zit_T, zit_F, false_implies, true_implies, zc_355])
  have k355 : μ1 355 = μ 355 := hF 355 (by decide)
  have k364 : μ1 364 = μ 364 := hF 364 (by decide)
  have k365 : μ1 365 = μ 365 := hF 365 (by decide)
  rw [k355, k364, k365, hK.1]
  refine zif (fun c => ?_) (fun c => ?_)
  · have hq := hK.2 j (by omega)
    rw [hq.1, hq.2.1]
    refine ⟨⟨⟨zI_s (by omega) (by omega), zI_s (by omega) (by omega)⟩, zI_s (by omega) (by omega)⟩, by omega, by omega, by omega, ⟨⟨zI_s (by omega) (by omega), zI_s (by omega) (by omega)⟩, zI_s (by omega) (by omega)⟩, by omega, by omega, by omega, zI_s (by omega) (by omega), _, (show Q.2.2.2 - (j + 1) < Q.2.2.2 - j by omega), j + 1, rfl, by omega, rfl, ?_, fun u hu => ?_, fun i a1 a2 a3 => ?_, (hF.zm (by decide)).zm (by decide)⟩
    · rw [zit_f (by omega), zit_f (by omega)]
      exact h0
    · by_cases eu : u = j
      · subst eu
        rw [zit_f (by omega), zit_t (by omega), zit_t (by omega)]
        exact ⟨rfl, rfl⟩
      · rw [zit_f (by omega), zit_f (by omega), zit_f (by omega), zit_f (by omega)]
        exact h1 u (by omega)
    · rw [zit_f (by omega), zit_f (by omega)]
      exact h2 i a1 a2 a3
  · have e : j = Q.2.2.2 := by omega
    subst e
    exact ⟨⟨h0, h1⟩, h2, hF⟩

