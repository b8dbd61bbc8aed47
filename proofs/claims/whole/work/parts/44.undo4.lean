def isUn (U : Nat) : Prop := (zO 10 U = true ∧ zptr U 0 = U + 1 ∧ zptr U 1 = U + 2 ∧ zkd (U + 1) = 6 ∧ zln (U + 1) = 17 ∧ zkd (U + 2) = 0 ∧ zln (U + 2) = 17) ∧ ∀ s : Int, 0 ≤ s → s < 17 → zpa (U + 1) s = slC U s ∧ zO 1 (slC U s) = true
theorem isUn_1 : isUn 111 := ⟨by decide +kernel, fun s h0 h1 => ⟨(zun h0 h1).1, (zun h0 h1).2.1⟩⟩
theorem isUn_2 : isUn 216 := ⟨by decide +kernel, fun s h0 h1 => ⟨(zun h0 h1).2.2.1, (zun h0 h1).2.2.2⟩⟩
def y_Un_copyFrom : zMt := (⟨"DebtDoors$Undo", "copyFrom", "(LDebtDoors$Undo;)V"⟩, prog_12_method_3_code, 3, none)
theorem d_Un_copyFrom_0 : decode prog_12_method_3_code 0 = .ok (.iconst 0, 1) := by decide +kernel
theorem d_Un_copyFrom_1 : decode prog_12_method_3_code 1 = .ok (.istore_n 2, 1) := by decide +kernel
theorem d_Un_copyFrom_2 : decode prog_12_method_3_code 2 = .ok (.iload_n 2, 1) := by decide +kernel
theorem d_Un_copyFrom_3 : decode prog_12_method_3_code 3 = .ok (.bipush 17, 2) := by decide +kernel
theorem d_Un_copyFrom_5 : decode prog_12_method_3_code 5 = .ok (.if_icmp .ge 36, 3) := by decide +kernel
theorem d_Un_copyFrom_8 : decode prog_12_method_3_code 8 = .ok (.aload_n 0, 1) := by decide +kernel
theorem d_Un_copyFrom_9 : decode prog_12_method_3_code 9 = .ok (.getfield 13, 3) := by decide +kernel
theorem d_Un_copyFrom_12 : decode prog_12_method_3_code 12 = .ok (.iload_n 2, 1) := by decide +kernel
theorem d_Un_copyFrom_13 : decode prog_12_method_3_code 13 = .ok (.aaload, 1) := by decide +kernel
theorem d_Un_copyFrom_14 : decode prog_12_method_3_code 14 = .ok (.aload_n 1, 1) := by decide +kernel
theorem d_Un_copyFrom_15 : decode prog_12_method_3_code 15 = .ok (.getfield 13, 3) := by decide +kernel
theorem d_Un_copyFrom_18 : decode prog_12_method_3_code 18 = .ok (.iload_n 2, 1) := by decide +kernel
theorem d_Un_copyFrom_19 : decode prog_12_method_3_code 19 = .ok (.aaload, 1) := by decide +kernel
theorem d_Un_copyFrom_20 : decode prog_12_method_3_code 20 = .ok (.invokevirtual 26, 3) := by decide +kernel
theorem d_Un_copyFrom_23 : decode prog_12_method_3_code 23 = .ok (.aload_n 0, 1) := by decide +kernel
theorem d_Un_copyFrom_24 : decode prog_12_method_3_code 24 = .ok (.getfield 17, 3) := by decide +kernel
theorem d_Un_copyFrom_27 : decode prog_12_method_3_code 27 = .ok (.iload_n 2, 1) := by decide +kernel
theorem d_Un_copyFrom_28 : decode prog_12_method_3_code 28 = .ok (.aload_n 1, 1) := by decide +kernel
theorem d_Un_copyFrom_29 : decode prog_12_method_3_code 29 = .ok (.getfield 17, 3) := by decide +kernel
theorem d_Un_copyFrom_32 : decode prog_12_method_3_code 32 = .ok (.iload_n 2, 1) := by decide +kernel
theorem d_Un_copyFrom_33 : decode prog_12_method_3_code 33 = .ok (.iaload, 1) := by decide +kernel
theorem d_Un_copyFrom_34 : decode prog_12_method_3_code 34 = .ok (.iastore, 1) := by decide +kernel
theorem d_Un_copyFrom_35 : decode prog_12_method_3_code 35 = .ok (.iinc 2 1, 3) := by decide +kernel
theorem d_Un_copyFrom_38 : decode prog_12_method_3_code 38 = .ok (.goto (-36), 3) := by decide +kernel
theorem d_Un_copyFrom_41 : decode prog_12_method_3_code 41 = .ok (.aload_n 0, 1) := by decide +kernel
theorem d_Un_copyFrom_42 : decode prog_12_method_3_code 42 = .ok (.aload_n 1, 1) := by decide +kernel
theorem d_Un_copyFrom_43 : decode prog_12_method_3_code 43 = .ok (.getfield 22, 3) := by decide +kernel
theorem d_Un_copyFrom_46 : decode prog_12_method_3_code 46 = .ok (.putfield 22, 3) := by decide +kernel
theorem d_Un_copyFrom_49 : decode prog_12_method_3_code 49 = .ok (.aload_n 0, 1) := by decide +kernel
theorem d_Un_copyFrom_50 : decode prog_12_method_3_code 50 = .ok (.aload_n 1, 1) := by decide +kernel
theorem d_Un_copyFrom_51 : decode prog_12_method_3_code 51 = .ok (.getfield 30, 3) := by decide +kernel
theorem d_Un_copyFrom_54 : decode prog_12_method_3_code 54 = .ok (.putfield 30, 3) := by decide +kernel
theorem d_Un_copyFrom_57 : decode prog_12_method_3_code 57 = .ok (.return_, 1) := by decide +kernel
def w_Un_copyFrom {d : Nat} (hd : 1 ≤ d) := (show SS ("DebtDoors$Undo", prog_12_method_3_code, 3) (none) d 0 0 0 0 _ from (sS (p1 := 41) (sS (p1 := 2) (sIn 2 (xE (rI d_Un_copyFrom_0 rfl)) d_Un_copyFrom_1 rfl (by decide)) (sLp (ps := 35) (tt := 8) (pn := 41) (p1 := 0) (p2 := 0) (xC (rNot (rJ2 (tgt := 41) j_ge (rIn 2 d_Un_copyFrom_2 rfl) (rB d_Un_copyFrom_3 rfl) d_Un_copyFrom_5 (by decide)))) (sS (p1 := 23) (sV (xVv lv_Un_26 (xA (rAr (rAr rA0 (rAa (rFr fl_Un_13 nk_10_0 (rAn 0 d_Un_copyFrom_8 rfl) d_Un_copyFrom_9) (rIn 2 d_Un_copyFrom_12 rfl) d_Un_copyFrom_13)) (rAa (rFr fl_Un_13 nk_10_0 (rAn 1 d_Un_copyFrom_14 rfl) d_Un_copyFrom_15) (rIn 2 d_Un_copyFrom_18 rfl) d_Un_copyFrom_19))) (by decide) d_Un_copyFrom_20)) (sAs (rFr fl_Un_17 nk_10_1 (rAn 0 d_Un_copyFrom_23 rfl) d_Un_copyFrom_24) (rIn 2 d_Un_copyFrom_27 rfl) (xE (rIa (rFr fl_Un_17 nk_10_1 (rAn 1 d_Un_copyFrom_28 rfl) d_Un_copyFrom_29) (rIn 2 d_Un_copyFrom_32 rfl) d_Un_copyFrom_33)) d_Un_copyFrom_34)) (sGo (pn := 2) (sInc d_Un_copyFrom_35 (by decide)) d_Un_copyFrom_38 (by decide)))) (sS (p1 := 49) (sP 2 fl_Un_22 fp_10_2 nk_10_2 (rAn 0 d_Un_copyFrom_41 rfl) (xE (rF 2 fl_Un_22 nk_10_2 (rAn 1 d_Un_copyFrom_42 rfl) d_Un_copyFrom_43 rfl)) d_Un_copyFrom_46 rfl) (sS (p1 := 57) (sP 3 fl_Un_30 fp_10_3 nk_10_3 (rAn 0 d_Un_copyFrom_49 rfl) (xE (rF 3 fl_Un_30 nk_10_3 (rAn 1 d_Un_copyFrom_50 rfl) d_Un_copyFrom_51 rfl)) d_Un_copyFrom_54 rfl) (sRv d_Un_copyFrom_57 rfl)))))
theorem q_Un_copyFrom {d : Nat} (hd : 5 ≤ d) {μ : zMem} {U V : Nat} (hU : isUn U) (hV : isUn V) (hUV : U + 105 ≤ V ∨ V + 105 ≤ U) (hc : ∀ s : Int, 0 ≤ s → s < 17 → 0 ≤ μ (slC V s) 5 ∧ μ (slC V s) 5 ≤ 16) : zSp d 0 0 y_Un_copyFrom zT0 [vr U, vr V] μ zT0 (fun r μ' => r = none ∧ (∀ s : Int, 0 ≤ s → s < 17 → lgO μ' (slC U s) = lgO μ (slC V s) ∧ μ' (slC U s) 5 = μ (slC V s) 5) ∧ (∀ s : Int, 0 ≤ s → s < 17 → μ' (U + 2) s = μ (V + 2) s) ∧ μ' U 2 = μ V 2 ∧ μ' U 3 = μ V 3 ∧ (∀ k, (k < U ∨ U + 105 ≤ k) → μ' k = μ k)) := by
  obtain ⟨⟨u1, u2, u3, u4, u5, u6, u7⟩, u8⟩ := hU
  obtain ⟨⟨v1, v2, v3, v4, v5, v6, v7⟩, v8⟩ := hV
  refine zSp.ss [vr U, vr V, vx 0] rfl (w_Un_copyFrom (Nat.le_trans (by decide) hd)) rfl rfl ?_
  (try simp only [zit_e, Bool.and_eq_true, Bool.or_eq_true, Bool.not_eq_true', Bool.and_eq_false_iff, Bool.or_eq_false_iff, Bool.not_eq_false', zbe, zdt, zdf, zb2_p, zbp_0, zbp_1, zbp_inj, zbp_01, Bool.true_eq_false, Bool.false_eq_true, true_and, and_true, Decidable.not_not, Classical.not_not, implies_true, List.nil_append, List.cons_append, List.append_assoc, Option.some.injEq, Sum.inl.injEq, zSw_c, zSw_n]); (try simp only [zit_e, Bool.and_eq_true, Bool.or_eq_true, Bool.not_eq_true', Bool.and_eq_false_iff, Bool.or_eq_false_iff, Bool.not_eq_false', zbe, zdt, zdf, zb2_p, zbp_0, zbp_1, zbp_inj, zbp_01, Bool.true_eq_false, Bool.false_eq_true, true_and, and_true, Decidable.not_not, Classical.not_not, implies_true, List.nil_append, List.cons_append, List.append_assoc, Option.some.injEq, Sum.inl.injEq, zSw_c, zSw_n, u1, v1]); (try simp only [zi_cs, zi_c0, zii_cs, zii_c0, zl_cs, zl_c0, zll_cs, zll_c0, zr_cs, zr_c0, zrr_cs, zrr_c0, zxs_cs, zxs_c0, zxx_cs, zxx_c0, zfree_c0, zfree_c1, zfree_cs, zfree_cz, zlong_i, zlong_r, zlong_x, zset_0, zset_s, true_and, and_true, Option.some.injEq, Sum.inl.injEq, Sum.inr.injEq, zb2_p, zbp_0, zbp_1, zbp_inj, zbp_01, Nat.zero_add, Nat.reduceAdd, implies_true, List.nil_append, List.cons_append, List.append_assoc, Int.not_lt, Int.not_le, Decidable.not_not, Int.zero_add, Int.reduceLE, Int.reduceLT, Int.reduceEq, Int.reduceNe, Int.reduceAdd, Int.reduceSub, Int.reduceMul, Int.reduceNeg, Int.reduceToNat, Nat.reduceMul, Nat.reduceLT, Nat.reduceEqDiff, and_self, ite_true, ite_false, zx1, zx2, zRecv, List.length_cons, List.length_nil, ne_eq, not_true_eq_false, not_false_eq_true, true_or, or_true, or_false, false_or, and_false, false_and, zf01, zf10, reduceCtorEq, zSw_c, zSw_n, zm_r, zit_T, zit_F, false_implies, true_implies, u1, v1])
  refine zLoop.up 17 (fun j ρ μ1 => ρ = [vr U, vr V, vi j] ∧ (∀ s : Int, 0 ≤ s → s < j → lgO μ1 (slC U s) = lgO μ (slC V s) ∧ μ1 (slC U s) 5 = μ (slC V s) 5) ∧ (∀ s : Int, 0 ≤ s → s < j → μ1 (U + 2) s = μ (V + 2) s) ∧ (∀ k, (k ≤ U ∨ U + 105 ≤ k) → μ1 k = μ k)) ⟨rfl, fun s a b => by omega, fun s a b => by omega, fun _ _ => rfl⟩ ?_
  rintro j ρ μ1 hj ⟨rfl, h1, h2, h3⟩
  (try simp only [zit_e, Bool.and_eq_true, Bool.or_eq_true, Bool.not_eq_true', Bool.and_eq_false_iff, Bool.or_eq_false_iff, Bool.not_eq_false', zbe, zdt, zdf, zb2_p, zbp_0, zbp_1, zbp_inj, zbp_01, Bool.true_eq_false, Bool.false_eq_true, true_and, and_true, Decidable.not_not, Classical.not_not, implies_true, List.nil_append, List.cons_append, List.append_assoc, Option.some.injEq, Sum.inl.injEq, zSw_c, zSw_n]); (try simp only [zit_e, Bool.and_eq_true, Bool.or_eq_true, Bool.not_eq_true', Bool.and_eq_false_iff, Bool.or_eq_false_iff, Bool.not_eq_false', zbe, zdt, zdf, zb2_p, zbp_0, zbp_1, zbp_inj, zbp_01, Bool.true_eq_false, Bool.false_eq_true, true_and, and_true, Decidable.not_not, Classical.not_not, implies_true, List.nil_append, List.cons_append, List.append_assoc, Option.some.injEq, Sum.inl.injEq, zSw_c, zSw_n, u1, u2, u3, u4, u5, u6, u7, v1, v2, v3, v4, v5, v6, v7]); (try simp only [zi_cs, zi_c0, zii_cs, zii_c0, zl_cs, zl_c0, zll_cs, zll_c0, zr_cs, zr_c0, zrr_cs, zrr_c0, zxs_cs, zxs_c0, zxx_cs, zxx_c0, zfree_c0, zfree_c1, zfree_cs, zfree_cz, zlong_i, zlong_r, zlong_x, zset_0, zset_s, true_and, and_true, Option.some.injEq, Sum.inl.injEq, Sum.inr.injEq, zb2_p, zbp_0, zbp_1, zbp_inj, zbp_01, Nat.zero_add, Nat.reduceAdd, implies_true, List.nil_append, List.cons_append, List.append_assoc, Int.not_lt, Int.not_le, Decidable.not_not, Int.zero_add, Int.reduceLE, Int.reduceLT, Int.reduceEq, Int.reduceNe, Int.reduceAdd, Int.reduceSub, Int.reduceMul, Int.reduceNeg, Int.reduceToNat, Nat.reduceMul, Nat.reduceLT, Nat.reduceEqDiff, and_self, ite_true, ite_false, zx1, zx2, zRecv, List.length_cons, List.length_nil, ne_eq, not_true_eq_false, not_false_eq_true, true_or, or_true, or_false, false_or, and_false, false_and, zf01, zf10, reduceCtorEq, zSw_c, zSw_n, zm_r, zit_T, zit_F, false_implies, true_implies, u1, u2, u3, u4, u5, u6, u7, v1, v2, v3, v4, v5, v6, v7])
  refine zif (fun c => ?_) (fun c => ?_)
  · have uj := u8 j (by omega) c
    have vj := v8 j (by omega) c
    rw [uj.1, vj.1]
    have hVlo : ∀ c, c ≤ 5 → slC V j + c ≤ U ∨ U + 105 ≤ slC V j + c := fun c hc => by unfold slC; omega
    have hsV : ∀ c, c ≤ 5 → μ1 (slC V j + c) = μ (slC V j + c) := fun c hc => h3 _ (hVlo c hc)
    have hsV0 : μ1 (slC V j) = μ (slC V j) := hsV 0 (by omega)
    refine ⟨by omega, uj.2, ?_⟩
    refine zCw.use (q_Le_copyFrom (d := 4) (by decide) uj.2 vj.2 (by unfold slC; omega)) (by omega) (fun q μ2 e => ?_)
    obtain ⟨b0, b1, b2, b3, b4, b5⟩ := e
    have kV2 : μ2 (V + 2) = μ (V + 2) := (b5 _ (by unfold slC; simp only [List.mem_cons, List.not_mem_nil, or_false]; omega)).trans (h3 _ (by omega))
    have kU2 : μ2 (U + 2) = μ1 (U + 2) := b5 _ (by unfold slC; simp only [List.mem_cons, List.not_mem_nil, or_false]; omega)
    refine ⟨b0, by omega, c, by omega, by ((try simp only [zI_e]); (first | done | omega | skip)), znx (by omega) ⟨rfl, fun s a b => ?_, fun s a b => ?_, fun k hk => ?_⟩⟩
    · have hoff : ∀ c, c ≤ 5 → zm μ2 (U + 2) j (μ2 (V + 2) j) (slC U s + c) = μ2 (slC U s + c) := fun c hc => zm_off _ (by unfold slC; omega)
      rw [lgO_c hoff, zit_f (by unfold slC; omega)]
      by_cases es : s = j
      · subst es
        refine ⟨?_, by rw [b3, hsV0]⟩
        rw [lgO_cp (by rw [hsV0]; exact hc _ a (by omega)) b1 b2 b3 b4]
        exact lgO_c hsV
      · have hold : ∀ c, c ≤ 5 → μ2 (slC U s + c) = μ1 (slC U s + c) := fun c hc => b5 _ (by unfold slC; simp only [List.mem_cons, List.not_mem_nil, or_false]; omega)
        rw [lgO_c hold, show μ2 (slC U s) = μ1 (slC U s) from hold 0 (by omega)]
        exact h1 s a (by omega)
    · by_cases es : s = j
      · rw [zit_t es, kV2, es]
      · rw [zit_f es, kU2]
        exact h2 s a (by omega)
    · rw [zm_off _ (by omega), b5 _ (by unfold slC; simp only [List.mem_cons, List.not_mem_nil, or_false]; omega)]
      exact h3 k hk
  · have ej : (j : Int) = 17 := by omega
    rw [ej] at h1 h2
    have hV : μ1 V = μ V := h3 V (by omega)
    refine ⟨fun s a b => ?_, fun s a b => ?_, by rw [hV], by rw [zit_f (by omega), hV], fun k hk => ?_⟩
    · have hoff : ∀ c, c ≤ 5 → zm (zm μ1 U 2 (μ1 V 2)) U 3 (zit (V = U) (μ1 V 3) (μ1 V 3)) (slC U s + c) = μ1 (slC U s + c) := fun c hc => by rw [zm_off _ (by unfold slC; omega), zm_off _ (by unfold slC; omega)]
      rw [lgO_c hoff, zit_f (by unfold slC; omega), zit_f (by unfold slC; omega)]
      exact h1 s a b
    · rw [zit_f (by omega), zit_f (by omega)]
      exact h2 s a b
    · rw [zm_off _ (by omega), zm_off _ (by omega)]
      exact h3 k (by omega)

