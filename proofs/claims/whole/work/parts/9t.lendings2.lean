/-! lendings: the class -/
noncomputable def mxM (μ : zMem) (v h : Int) : Nat → Int
  | 0 => 0
  | o + 1 => zit (μ (11 + o) 0 = v ∧ μ (11 + o) 1 = h) (max (mxM μ v h o) (μ (11 + o) 2)) (mxM μ v h o)
theorem fl_Ln_39 : zFl "DebtDoors$Lendings" 39 9 3 := ⟨_, rfl, by decide, (zTb_in 239 (by decide +kernel) (by decide +kernel)), rfl⟩
def y_Ln_toldBefore : zMt := (⟨"DebtDoors$Lendings", "toldBefore", "(LDebtDoors$Town;III)Z"⟩, prog_4_method_3_code, 5, some .boolean)
theorem d_Ln_toldBefore_0 : decode prog_4_method_3_code 0 = .ok (.iconst 0, 1) := by decide +kernel
theorem d_Ln_toldBefore_1 : decode prog_4_method_3_code 1 = .ok (.istore 4, 2) := by decide +kernel
theorem d_Ln_toldBefore_3 : decode prog_4_method_3_code 3 = .ok (.iload 4, 2) := by decide +kernel
theorem d_Ln_toldBefore_5 : decode prog_4_method_3_code 5 = .ok (.iload_n 1, 1) := by decide +kernel
theorem d_Ln_toldBefore_6 : decode prog_4_method_3_code 6 = .ok (.if_icmp .ge 37, 3) := by decide +kernel
theorem d_Ln_toldBefore_9 : decode prog_4_method_3_code 9 = .ok (.aload_n 0, 1) := by decide +kernel
theorem d_Ln_toldBefore_10 : decode prog_4_method_3_code 10 = .ok (.getfield 39, 3) := by decide +kernel
theorem d_Ln_toldBefore_13 : decode prog_4_method_3_code 13 = .ok (.iload 4, 2) := by decide +kernel
theorem d_Ln_toldBefore_15 : decode prog_4_method_3_code 15 = .ok (.aaload, 1) := by decide +kernel
theorem d_Ln_toldBefore_16 : decode prog_4_method_3_code 16 = .ok (.iconst 0, 1) := by decide +kernel
theorem d_Ln_toldBefore_17 : decode prog_4_method_3_code 17 = .ok (.iaload, 1) := by decide +kernel
theorem d_Ln_toldBefore_18 : decode prog_4_method_3_code 18 = .ok (.iload_n 2, 1) := by decide +kernel
theorem d_Ln_toldBefore_19 : decode prog_4_method_3_code 19 = .ok (.if_icmp .ne 18, 3) := by decide +kernel
theorem d_Ln_toldBefore_22 : decode prog_4_method_3_code 22 = .ok (.aload_n 0, 1) := by decide +kernel
theorem d_Ln_toldBefore_23 : decode prog_4_method_3_code 23 = .ok (.getfield 39, 3) := by decide +kernel
theorem d_Ln_toldBefore_26 : decode prog_4_method_3_code 26 = .ok (.iload 4, 2) := by decide +kernel
theorem d_Ln_toldBefore_28 : decode prog_4_method_3_code 28 = .ok (.aaload, 1) := by decide +kernel
theorem d_Ln_toldBefore_29 : decode prog_4_method_3_code 29 = .ok (.iconst 1, 1) := by decide +kernel
theorem d_Ln_toldBefore_30 : decode prog_4_method_3_code 30 = .ok (.iaload, 1) := by decide +kernel
theorem d_Ln_toldBefore_31 : decode prog_4_method_3_code 31 = .ok (.iload_n 3, 1) := by decide +kernel
theorem d_Ln_toldBefore_32 : decode prog_4_method_3_code 32 = .ok (.if_icmp .ne 5, 3) := by decide +kernel
theorem d_Ln_toldBefore_35 : decode prog_4_method_3_code 35 = .ok (.iconst 1, 1) := by decide +kernel
theorem d_Ln_toldBefore_36 : decode prog_4_method_3_code 36 = .ok (.ireturn, 1) := by decide +kernel
theorem d_Ln_toldBefore_37 : decode prog_4_method_3_code 37 = .ok (.iinc 4 1, 3) := by decide +kernel
theorem d_Ln_toldBefore_40 : decode prog_4_method_3_code 40 = .ok (.goto (-37), 3) := by decide +kernel
theorem d_Ln_toldBefore_43 : decode prog_4_method_3_code 43 = .ok (.iconst 0, 1) := by decide +kernel
theorem d_Ln_toldBefore_44 : decode prog_4_method_3_code 44 = .ok (.ireturn, 1) := by decide +kernel
def w_Ln_toldBefore {d : Nat} (hd : 1 ≤ d) := (show SS ("DebtDoors$Lendings", prog_4_method_3_code, 5) (some .boolean) d 0 0 0 0 _ from (sS (p1 := 43) (sS (p1 := 3) (sI (xE (rI d_Ln_toldBefore_0 rfl)) d_Ln_toldBefore_1 (by decide)) (sLp (ps := 37) (tt := 9) (pn := 43) (p1 := 0) (p2 := 0) (xC (rNot (rJ2 (tgt := 43) j_ge (rIl d_Ln_toldBefore_3) (rIn 1 d_Ln_toldBefore_5 rfl) d_Ln_toldBefore_6 (by decide)))) (sIf (pn := 37) (tt := 35) (xC (rAnd (mm := 22) (rNot (rJ2 (tgt := 37) j_ne (rIa (rAa (rFr fl_Ln_39 nk_9_3 (rAn 0 d_Ln_toldBefore_9 rfl) d_Ln_toldBefore_10) (rIl d_Ln_toldBefore_13) d_Ln_toldBefore_15) (rI d_Ln_toldBefore_16 rfl) d_Ln_toldBefore_17) (rIn 2 d_Ln_toldBefore_18 rfl) d_Ln_toldBefore_19 (by decide))) (rNot (rJ2 (tgt := 37) j_ne (rIa (rAa (rFr fl_Ln_39 nk_9_3 (rAn 0 d_Ln_toldBefore_22 rfl) d_Ln_toldBefore_23) (rIl d_Ln_toldBefore_26) d_Ln_toldBefore_28) (rI d_Ln_toldBefore_29 rfl) d_Ln_toldBefore_30) (rIn 3 d_Ln_toldBefore_31 rfl) d_Ln_toldBefore_32 (by decide))))) (sRz (xE (rI d_Ln_toldBefore_35 rfl)) d_Ln_toldBefore_36 rfl)) (sGo (pn := 3) (sInc d_Ln_toldBefore_37 (by decide)) d_Ln_toldBefore_40 (by decide)))) (sRz (xE (rI d_Ln_toldBefore_43 rfl)) d_Ln_toldBefore_44 rfl)))
noncomputable def f_Ln_toldBefore : List zV → zMem → Int
  | [.inr (.inr (.inl q0)), .inl i, .inl v, .inl u], μ => zbp (∃ k : Nat, (k : Int) < i ∧ μ (11 + k) 0 = v ∧ μ (11 + k) 1 = u)
  | _, _ => 0
def g_Ln_toldBefore : List zV → zMem → Prop
  | [.inr (.inr (.inl q0)), .inl i, .inl v, .inl u], μ => q0 = 1 ∧ (0 ≤ i ∧ i ≤ 8)
  | _, _ => False
theorem p_Ln_toldBefore : zPu y_Ln_toldBefore 1 f_Ln_toldBefore g_Ln_toldBefore := by
  intro as μ h
  unfold g_Ln_toldBefore at h
  split at h
  · next q0 i v u =>
    obtain ⟨rfl, h⟩ := h
    refine zSp.ss [vr 1, vi i, vi v, vi u, vx 0] rfl (w_Ln_toldBefore (Nat.le_refl _)) rfl rfl ?_
    (try simp only [zit_e, Bool.and_eq_true, Bool.or_eq_true, Bool.not_eq_true', Bool.and_eq_false_iff, Bool.or_eq_false_iff, Bool.not_eq_false', zbe, zdt, zdf, zb2_p, zbp_0, zbp_1, zbp_inj, zbp_01, Bool.true_eq_false, Bool.false_eq_true, true_and, and_true, Decidable.not_not, Classical.not_not, implies_true, List.nil_append, List.cons_append, List.append_assoc, Option.some.injEq, Sum.inl.injEq, zSw_c, zSw_n]); (try simp only [zit_e, Bool.and_eq_true, Bool.or_eq_true, Bool.not_eq_true', Bool.and_eq_false_iff, Bool.or_eq_false_iff, Bool.not_eq_false', zbe, zdt, zdf, zb2_p, zbp_0, zbp_1, zbp_inj, zbp_01, Bool.true_eq_false, Bool.false_eq_true, true_and, and_true, Decidable.not_not, Classical.not_not, implies_true, List.nil_append, List.cons_append, List.append_assoc, Option.some.injEq, Sum.inl.injEq, zSw_c, zSw_n, f_Ln_toldBefore, zc_1]); (try simp only [zi_cs, zi_c0, zii_cs, zii_c0, zl_cs, zl_c0, zll_cs, zll_c0, zr_cs, zr_c0, zrr_cs, zrr_c0, zxs_cs, zxs_c0, zxx_cs, zxx_c0, zfree_c0, zfree_c1, zfree_cs, zfree_cz, zlong_i, zlong_r, zlong_x, zset_0, zset_s, true_and, and_true, Option.some.injEq, Sum.inl.injEq, Sum.inr.injEq, zb2_p, zbp_0, zbp_1, zbp_inj, zbp_01, Nat.zero_add, Nat.reduceAdd, implies_true, List.nil_append, List.cons_append, List.append_assoc, Int.not_lt, Int.not_le, Decidable.not_not, Int.zero_add, Int.reduceLE, Int.reduceLT, Int.reduceEq, Int.reduceNe, Int.reduceAdd, Int.reduceSub, Int.reduceMul, Int.reduceNeg, Int.reduceToNat, Nat.reduceMul, Nat.reduceLT, Nat.reduceEqDiff, and_self, ite_true, ite_false, zx1, zx2, zRecv, List.length_cons, List.length_nil, ne_eq, not_true_eq_false, not_false_eq_true, true_or, or_true, or_false, false_or, and_false, false_and, zf01, zf10, reduceCtorEq, zSw_c, zSw_n, zm_r, zit_T, zit_F, false_implies, true_implies, f_Ln_toldBefore, zc_1])
    refine zLoop.up i.toNat (fun j ρ μ1 => ρ = [vr 1, vi i, vi v, vi u, vi j] ∧ μ = μ1 ∧ ∀ k : Nat, k < j → ¬ (μ (11 + k) 0 = v ∧ μ (11 + k) 1 = u)) ⟨rfl, rfl, fun k hk => absurd hk (Nat.not_lt_zero k)⟩ ?_
    rintro j ρ μ1 hj ⟨rfl, rfl, hk⟩
    (try simp only [zit_e, Bool.and_eq_true, Bool.or_eq_true, Bool.not_eq_true', Bool.and_eq_false_iff, Bool.or_eq_false_iff, Bool.not_eq_false', zbe, zdt, zdf, zb2_p, zbp_0, zbp_1, zbp_inj, zbp_01, Bool.true_eq_false, Bool.false_eq_true, true_and, and_true, Decidable.not_not, Classical.not_not, implies_true, List.nil_append, List.cons_append, List.append_assoc, Option.some.injEq, Sum.inl.injEq, zSw_c, zSw_n]); (try simp only [zit_e, Bool.and_eq_true, Bool.or_eq_true, Bool.not_eq_true', Bool.and_eq_false_iff, Bool.or_eq_false_iff, Bool.not_eq_false', zbe, zdt, zdf, zb2_p, zbp_0, zbp_1, zbp_inj, zbp_01, Bool.true_eq_false, Bool.false_eq_true, true_and, and_true, Decidable.not_not, Classical.not_not, implies_true, List.nil_append, List.cons_append, List.append_assoc, Option.some.injEq, Sum.inl.injEq, zSw_c, zSw_n, f_Ln_toldBefore, zc_1]); (try simp only [zi_cs, zi_c0, zii_cs, zii_c0, zl_cs, zl_c0, zll_cs, zll_c0, zr_cs, zr_c0, zrr_cs, zrr_c0, zxs_cs, zxs_c0, zxx_cs, zxx_c0, zfree_c0, zfree_c1, zfree_cs, zfree_cz, zlong_i, zlong_r, zlong_x, zset_0, zset_s, true_and, and_true, Option.some.injEq, Sum.inl.injEq, Sum.inr.injEq, zb2_p, zbp_0, zbp_1, zbp_inj, zbp_01, Nat.zero_add, Nat.reduceAdd, implies_true, List.nil_append, List.cons_append, List.append_assoc, Int.not_lt, Int.not_le, Decidable.not_not, Int.zero_add, Int.reduceLE, Int.reduceLT, Int.reduceEq, Int.reduceNe, Int.reduceAdd, Int.reduceSub, Int.reduceMul, Int.reduceNeg, Int.reduceToNat, Nat.reduceMul, Nat.reduceLT, Nat.reduceEqDiff, and_self, ite_true, ite_false, zx1, zx2, zRecv, List.length_cons, List.length_nil, ne_eq, not_true_eq_false, not_false_eq_true, true_or, or_true, or_false, false_or, and_false, false_and, zf01, zf10, reduceCtorEq, zSw_c, zSw_n, zm_r, zit_T, zit_F, false_implies, true_implies, f_Ln_toldBefore, zc_1])
    refine zif (fun c => ?_) (fun c => ?_)
    · have hz := zpa10 (i := j) (by omega) (by omega)
      rw [hz.1.1, Int.toNat_natCast]
      rw [Int.toNat_natCast] at hz
      simp only [hz.2.1.1, hz.2.1.2]
      refine ⟨by ((repeat' apply And.intro) <;> (first | omega | (simp only [zI_e]; omega) | exact True.intro | (intro _; (repeat' apply And.intro) <;> (first | omega | (simp only [zI_e]; omega) | exact True.intro)))), ?_⟩
      refine zif (fun c1 => ?_) (fun c1 => ?_)
      · exact (zbt ⟨j, c, c1⟩).symm
      · refine ⟨zI_s (by omega) (by omega), i.toNat - (j + 1), by omega, j + 1, rfl, by omega, rfl, fun k hk2 => ?_⟩
        by_cases ek : k = j
        · subst ek
          exact c1
        · exact hk k (by omega)
    · refine (zbf ?_).symm
      rintro ⟨k, q1, q2⟩
      exact hk k (by omega) q2
  · exact h.elim
theorem fl_Ln_34 : zFl "DebtDoors$Lendings" 34 9 8 := ⟨_, rfl, by decide, (zTb_in 254 (by decide +kernel) (by decide +kernel)), rfl⟩
theorem km_Ln_56 : Cond.methodLink "DebtDoors$Lendings" 56 Lib.Math.max.name ∈ zTb := (zTb_in 1111 (by decide +kernel) (by decide +kernel))
def y_Ln_deepestTold : zMt := (⟨"DebtDoors$Lendings", "deepestTold", "(LDebtDoors$Town;II)I"⟩, prog_4_method_4_code, 5, some .int)
theorem d_Ln_deepestTold_0 : decode prog_4_method_4_code 0 = .ok (.iconst 0, 1) := by decide +kernel
theorem d_Ln_deepestTold_1 : decode prog_4_method_4_code 1 = .ok (.istore_n 3, 1) := by decide +kernel
theorem d_Ln_deepestTold_2 : decode prog_4_method_4_code 2 = .ok (.iconst 0, 1) := by decide +kernel
theorem d_Ln_deepestTold_3 : decode prog_4_method_4_code 3 = .ok (.istore 4, 2) := by decide +kernel
theorem d_Ln_deepestTold_5 : decode prog_4_method_4_code 5 = .ok (.iload 4, 2) := by decide +kernel
theorem d_Ln_deepestTold_7 : decode prog_4_method_4_code 7 = .ok (.aload_n 0, 1) := by decide +kernel
theorem d_Ln_deepestTold_8 : decode prog_4_method_4_code 8 = .ok (.getfield 34, 3) := by decide +kernel
theorem d_Ln_deepestTold_11 : decode prog_4_method_4_code 11 = .ok (.if_icmp .ge 49, 3) := by decide +kernel
theorem d_Ln_deepestTold_14 : decode prog_4_method_4_code 14 = .ok (.aload_n 0, 1) := by decide +kernel
theorem d_Ln_deepestTold_15 : decode prog_4_method_4_code 15 = .ok (.getfield 39, 3) := by decide +kernel
theorem d_Ln_deepestTold_18 : decode prog_4_method_4_code 18 = .ok (.iload 4, 2) := by decide +kernel
theorem d_Ln_deepestTold_20 : decode prog_4_method_4_code 20 = .ok (.aaload, 1) := by decide +kernel
theorem d_Ln_deepestTold_21 : decode prog_4_method_4_code 21 = .ok (.iconst 0, 1) := by decide +kernel
theorem d_Ln_deepestTold_22 : decode prog_4_method_4_code 22 = .ok (.iaload, 1) := by decide +kernel
theorem d_Ln_deepestTold_23 : decode prog_4_method_4_code 23 = .ok (.iload_n 1, 1) := by decide +kernel
theorem d_Ln_deepestTold_24 : decode prog_4_method_4_code 24 = .ok (.if_icmp .ne 30, 3) := by decide +kernel
theorem d_Ln_deepestTold_27 : decode prog_4_method_4_code 27 = .ok (.aload_n 0, 1) := by decide +kernel
theorem d_Ln_deepestTold_28 : decode prog_4_method_4_code 28 = .ok (.getfield 39, 3) := by decide +kernel
theorem d_Ln_deepestTold_31 : decode prog_4_method_4_code 31 = .ok (.iload 4, 2) := by decide +kernel
theorem d_Ln_deepestTold_33 : decode prog_4_method_4_code 33 = .ok (.aaload, 1) := by decide +kernel
theorem d_Ln_deepestTold_34 : decode prog_4_method_4_code 34 = .ok (.iconst 1, 1) := by decide +kernel
theorem d_Ln_deepestTold_35 : decode prog_4_method_4_code 35 = .ok (.iaload, 1) := by decide +kernel
theorem d_Ln_deepestTold_36 : decode prog_4_method_4_code 36 = .ok (.iload_n 2, 1) := by decide +kernel
theorem d_Ln_deepestTold_37 : decode prog_4_method_4_code 37 = .ok (.if_icmp .ne 17, 3) := by decide +kernel
theorem d_Ln_deepestTold_40 : decode prog_4_method_4_code 40 = .ok (.iload_n 3, 1) := by decide +kernel
theorem d_Ln_deepestTold_41 : decode prog_4_method_4_code 41 = .ok (.aload_n 0, 1) := by decide +kernel
theorem d_Ln_deepestTold_42 : decode prog_4_method_4_code 42 = .ok (.getfield 39, 3) := by decide +kernel
theorem d_Ln_deepestTold_45 : decode prog_4_method_4_code 45 = .ok (.iload 4, 2) := by decide +kernel
theorem d_Ln_deepestTold_47 : decode prog_4_method_4_code 47 = .ok (.aaload, 1) := by decide +kernel
theorem d_Ln_deepestTold_48 : decode prog_4_method_4_code 48 = .ok (.iconst 2, 1) := by decide +kernel
theorem d_Ln_deepestTold_49 : decode prog_4_method_4_code 49 = .ok (.iaload, 1) := by decide +kernel
theorem d_Ln_deepestTold_50 : decode prog_4_method_4_code 50 = .ok (.invokestatic 56, 3) := by decide +kernel
theorem d_Ln_deepestTold_53 : decode prog_4_method_4_code 53 = .ok (.istore_n 3, 1) := by decide +kernel
theorem d_Ln_deepestTold_54 : decode prog_4_method_4_code 54 = .ok (.iinc 4 1, 3) := by decide +kernel
theorem d_Ln_deepestTold_57 : decode prog_4_method_4_code 57 = .ok (.goto (-52), 3) := by decide +kernel
theorem d_Ln_deepestTold_60 : decode prog_4_method_4_code 60 = .ok (.iload_n 3, 1) := by decide +kernel
theorem d_Ln_deepestTold_61 : decode prog_4_method_4_code 61 = .ok (.ireturn, 1) := by decide +kernel
def w_Ln_deepestTold {d : Nat} (hd : 3 ≤ d) := (show SS ("DebtDoors$Lendings", prog_4_method_4_code, 5) (some .int) d 0 0 0 0 _ from (sS (p1 := 2) (sIn 3 (xE (rI d_Ln_deepestTold_0 rfl)) d_Ln_deepestTold_1 rfl (by decide)) (sS (p1 := 60) (sS (p1 := 5) (sI (xE (rI d_Ln_deepestTold_2 rfl)) d_Ln_deepestTold_3 (by decide)) (sLp (ps := 54) (tt := 14) (pn := 60) (p1 := 0) (p2 := 0) (xC (rNot (rJ2 (tgt := 60) j_ge (rIl d_Ln_deepestTold_5) (rF 8 fl_Ln_34 nk_9_8 (rAn 0 d_Ln_deepestTold_7 rfl) d_Ln_deepestTold_8 rfl) d_Ln_deepestTold_11 (by decide)))) (sIf (pn := 54) (tt := 40) (xC (rAnd (mm := 27) (rNot (rJ2 (tgt := 54) j_ne (rIa (rAa (rFr fl_Ln_39 nk_9_3 (rAn 0 d_Ln_deepestTold_14 rfl) d_Ln_deepestTold_15) (rIl d_Ln_deepestTold_18) d_Ln_deepestTold_20) (rI d_Ln_deepestTold_21 rfl) d_Ln_deepestTold_22) (rIn 1 d_Ln_deepestTold_23 rfl) d_Ln_deepestTold_24 (by decide))) (rNot (rJ2 (tgt := 54) j_ne (rIa (rAa (rFr fl_Ln_39 nk_9_3 (rAn 0 d_Ln_deepestTold_27 rfl) d_Ln_deepestTold_28) (rIl d_Ln_deepestTold_31) d_Ln_deepestTold_33) (rI d_Ln_deepestTold_34 rfl) d_Ln_deepestTold_35) (rIn 2 d_Ln_deepestTold_36 rfl) d_Ln_deepestTold_37 (by decide))))) (sIn 3 (xE (rMax km_Ln_56 (rIn 3 d_Ln_deepestTold_40 rfl) (rIa (rAa (rFr fl_Ln_39 nk_9_3 (rAn 0 d_Ln_deepestTold_41 rfl) d_Ln_deepestTold_42) (rIl d_Ln_deepestTold_45) d_Ln_deepestTold_47) (rI d_Ln_deepestTold_48 rfl) d_Ln_deepestTold_49) (by decide) (Nat.le_trans (Nat.le_of_ble_eq_true rfl) hd) d_Ln_deepestTold_50)) d_Ln_deepestTold_53 rfl (by decide))) (sGo (pn := 5) (sInc d_Ln_deepestTold_54 (by decide)) d_Ln_deepestTold_57 (by decide)))) (sRi (xE (rIn 3 d_Ln_deepestTold_60 rfl)) d_Ln_deepestTold_61 rfl))))
noncomputable def f_Ln_deepestTold : List zV → zMem → Int
  | [.inr (.inr (.inl q0)), .inl v, .inl u], μ => mxM μ v u (μ 1 8).toNat
  | _, _ => 0
def g_Ln_deepestTold : List zV → zMem → Prop
  | [.inr (.inr (.inl q0)), .inl v, .inl u], μ => q0 = 1 ∧ ((0 ≤ μ 1 8 ∧ μ 1 8 ≤ 8) ∧ ∀ o : Nat, (o : Int) < μ 1 8 → 0 ≤ μ (11 + o) 2 ∧ μ (11 + o) 2 ≤ 3)
  | _, _ => False
theorem p_Ln_deepestTold : zPu y_Ln_deepestTold 3 f_Ln_deepestTold g_Ln_deepestTold := by
  intro as μ h
  unfold g_Ln_deepestTold at h
  split at h
  · next q0 v u =>
    obtain ⟨rfl, h⟩ := h
    refine zSp.ss [vr 1, vi v, vi u, vx 0, vx 0] rfl (w_Ln_deepestTold (Nat.le_refl _)) rfl rfl ?_
    (try simp only [zit_e, Bool.and_eq_true, Bool.or_eq_true, Bool.not_eq_true', Bool.and_eq_false_iff, Bool.or_eq_false_iff, Bool.not_eq_false', zbe, zdt, zdf, zb2_p, zbp_0, zbp_1, zbp_inj, zbp_01, Bool.true_eq_false, Bool.false_eq_true, true_and, and_true, Decidable.not_not, Classical.not_not, implies_true, List.nil_append, List.cons_append, List.append_assoc, Option.some.injEq, Sum.inl.injEq, zSw_c, zSw_n]); (try simp only [zit_e, Bool.and_eq_true, Bool.or_eq_true, Bool.not_eq_true', Bool.and_eq_false_iff, Bool.or_eq_false_iff, Bool.not_eq_false', zbe, zdt, zdf, zb2_p, zbp_0, zbp_1, zbp_inj, zbp_01, Bool.true_eq_false, Bool.false_eq_true, true_and, and_true, Decidable.not_not, Classical.not_not, implies_true, List.nil_append, List.cons_append, List.append_assoc, Option.some.injEq, Sum.inl.injEq, zSw_c, zSw_n, f_Ln_deepestTold, zc_1]); (try simp only [zi_cs, zi_c0, zii_cs, zii_c0, zl_cs, zl_c0, zll_cs, zll_c0, zr_cs, zr_c0, zrr_cs, zrr_c0, zxs_cs, zxs_c0, zxx_cs, zxx_c0, zfree_c0, zfree_c1, zfree_cs, zfree_cz, zlong_i, zlong_r, zlong_x, zset_0, zset_s, true_and, and_true, Option.some.injEq, Sum.inl.injEq, Sum.inr.injEq, zb2_p, zbp_0, zbp_1, zbp_inj, zbp_01, Nat.zero_add, Nat.reduceAdd, implies_true, List.nil_append, List.cons_append, List.append_assoc, Int.not_lt, Int.not_le, Decidable.not_not, Int.zero_add, Int.reduceLE, Int.reduceLT, Int.reduceEq, Int.reduceNe, Int.reduceAdd, Int.reduceSub, Int.reduceMul, Int.reduceNeg, Int.reduceToNat, Nat.reduceMul, Nat.reduceLT, Nat.reduceEqDiff, and_self, ite_true, ite_false, zx1, zx2, zRecv, List.length_cons, List.length_nil, ne_eq, not_true_eq_false, not_false_eq_true, true_or, or_true, or_false, false_or, and_false, false_and, zf01, zf10, reduceCtorEq, zSw_c, zSw_n, zm_r, zit_T, zit_F, false_implies, true_implies, f_Ln_deepestTold, zc_1])
    refine zLoop.up (μ 1 8).toNat (fun j ρ μ1 => ρ = [vr 1, vi v, vi u, vi (mxM μ v u j), vi j] ∧ μ = μ1) ⟨rfl, rfl⟩ ?_
    rintro j ρ μ1 hj ⟨rfl, rfl⟩
    (try simp only [zit_e, Bool.and_eq_true, Bool.or_eq_true, Bool.not_eq_true', Bool.and_eq_false_iff, Bool.or_eq_false_iff, Bool.not_eq_false', zbe, zdt, zdf, zb2_p, zbp_0, zbp_1, zbp_inj, zbp_01, Bool.true_eq_false, Bool.false_eq_true, true_and, and_true, Decidable.not_not, Classical.not_not, implies_true, List.nil_append, List.cons_append, List.append_assoc, Option.some.injEq, Sum.inl.injEq, zSw_c, zSw_n]); (try simp only [zit_e, Bool.and_eq_true, Bool.or_eq_true, Bool.not_eq_true', Bool.and_eq_false_iff, Bool.or_eq_false_iff, Bool.not_eq_false', zbe, zdt, zdf, zb2_p, zbp_0, zbp_1, zbp_inj, zbp_01, Bool.true_eq_false, Bool.false_eq_true, true_and, and_true, Decidable.not_not, Classical.not_not, implies_true, List.nil_append, List.cons_append, List.append_assoc, Option.some.injEq, Sum.inl.injEq, zSw_c, zSw_n, f_Ln_deepestTold, zc_1]); (try simp only [zi_cs, zi_c0, zii_cs, zii_c0, zl_cs, zl_c0, zll_cs, zll_c0, zr_cs, zr_c0, zrr_cs, zrr_c0, zxs_cs, zxs_c0, zxx_cs, zxx_c0, zfree_c0, zfree_c1, zfree_cs, zfree_cz, zlong_i, zlong_r, zlong_x, zset_0, zset_s, true_and, and_true, Option.some.injEq, Sum.inl.injEq, Sum.inr.injEq, zb2_p, zbp_0, zbp_1, zbp_inj, zbp_01, Nat.zero_add, Nat.reduceAdd, implies_true, List.nil_append, List.cons_append, List.append_assoc, Int.not_lt, Int.not_le, Decidable.not_not, Int.zero_add, Int.reduceLE, Int.reduceLT, Int.reduceEq, Int.reduceNe, Int.reduceAdd, Int.reduceSub, Int.reduceMul, Int.reduceNeg, Int.reduceToNat, Nat.reduceMul, Nat.reduceLT, Nat.reduceEqDiff, and_self, ite_true, ite_false, zx1, zx2, zRecv, List.length_cons, List.length_nil, ne_eq, not_true_eq_false, not_false_eq_true, true_or, or_true, or_false, false_or, and_false, false_and, zf01, zf10, reduceCtorEq, zSw_c, zSw_n, zm_r, zit_T, zit_F, false_implies, true_implies, f_Ln_deepestTold, zc_1])
    refine zif (fun c => ?_) (fun c => ?_)
    · have hz := zpa10 (i := j) (by omega) (by omega)
      rw [hz.1.1, Int.toNat_natCast]
      rw [Int.toNat_natCast] at hz
      simp only [hz.2.1.1, hz.2.1.2]
      have es : mxM μ v u (j + 1) = zit (μ (11 + j) 0 = v ∧ μ (11 + j) 1 = u) (max (mxM μ v u j) (μ (11 + j) 2)) (mxM μ v u j) := rfl
      refine ⟨by ((repeat' apply And.intro) <;> (first | omega | (simp only [zI_e]; omega) | exact True.intro | (intro _; (repeat' apply And.intro) <;> (first | omega | (simp only [zI_e]; omega) | exact True.intro)))), ?_⟩
      refine zif (fun c1 => ?_) (fun c1 => ?_)
      · rw [zit_t c1] at es
        exact ⟨by ((repeat' apply And.intro) <;> (first | omega | (simp only [zI_e]; omega) | exact True.intro | (intro _; (repeat' apply And.intro) <;> (first | omega | (simp only [zI_e]; omega) | exact True.intro)))), zI_s (by omega) (by omega), (μ 1 8).toNat - (j + 1), by omega, j + 1, rfl, by omega, by rw [es]; rfl⟩
      · rw [zit_f c1] at es
        exact ⟨zI_s (by omega) (by omega), (μ 1 8).toNat - (j + 1), by omega, j + 1, rfl, by omega, by rw [es]; rfl⟩
    · rw [show j = (μ 1 8).toNat by omega]
  · exact h.elim
theorem mxM_R {μ : zMem} {V : List D4} (h : VCx 11 8 999 μ V) {i : Int} : ∀ o : Nat, o ≤ V.length → mxM μ (dfV V i).1 (dfV V i).2.1 o = mxR V i o
  | 0, _ => rfl
  | o + 1, ho => by
    have e := (h.e (k := o) (by omega) (by omega)).1
    rw [Int.toNat_natCast] at e
    rw [mxM, mxR, mxM_R h o (by omega), e.1, e.2.1, e.2.2.1]
    rfl
theorem lgS_n {nd : Int → Int → Int → Int} {V : List D4} {j : Nat} (h : lgS nd V j = none) : ∀ k : Nat, lgS nd V (j + k) = none
  | 0 => h
  | k + 1 => by
    rw [← Nat.add_assoc, lgS, lgS_n h k]
theorem lgS_s {nd : Int → Int → Int → Int} {V : List D4} {j : Nat} {L : List D4} (h : lgS nd V j = some L) : ((∃ k : Nat, k < j ∧ alk V k j) → lgS nd V (j + 1) = some L) ∧ (¬ (∃ k : Nat, k < j ∧ alk V k j) → (nd (dfV V j).1 (dfV V j).2.1 (mxR V j V.length) = -1 → lgS nd V (j + 1) = none) ∧ (nd (dfV V j).1 (dfV V j).2.1 (mxR V j V.length) ≠ -1 → (nd (dfV V j).1 (dfV V j).2.1 (mxR V j V.length) = 0 → lgS nd V (j + 1) = some L) ∧ (nd (dfV V j).1 (dfV V j).2.1 (mxR V j V.length) ≠ 0 → lgS nd V (j + 1) = some (L ++ [((dfV V j).1, (dfV V j).2.1, nd (dfV V j).1 (dfV V j).2.1 (mxR V j V.length), (j : Int))])))) := by
  rw [lgS, h]
  simp only
  refine ⟨fun q => if_pos q, fun q => ⟨fun r => ?_, fun r => ⟨fun s => ?_, fun s => ?_⟩⟩⟩
  · rw [if_neg q, if_pos r]
  · rw [if_neg q, if_neg r, if_pos s]
  · rw [if_neg q, if_neg r, if_neg s]
/-- lendings as the class keeps them -/
def LnC (L : List D4) (μ : zMem) : Prop := ∀ i : Nat, i < L.length → (μ 329 i = (dfV L i).1 ∧ μ 330 i = (dfV L i).2.1) ∧ μ 331 i = (dfV L i).2.2.1 ∧ μ 332 i = (dfV L i).2.2.2
theorem fl_Ln_27 : zFl "DebtDoors$Lendings" 27 2 5 := ⟨_, rfl, by decide, (zTb_in 403 (by decide +kernel) (by decide +kernel)), rfl⟩
theorem fp_2_5 : zFp 2 5 0 := ⟨_, rfl, rfl, rfl, by decide⟩
theorem nk_2_5 : zNk 2 5 = some 0 := rfl
theorem fl_Ln_31 : zFl "DebtDoors$Lendings" 31 2 6 := ⟨_, rfl, by decide, (zTb_in 405 (by decide +kernel) (by decide +kernel)), rfl⟩
theorem fp_2_6 : zFp 2 6 0 := ⟨_, rfl, rfl, rfl, by decide⟩
theorem nk_2_6 : zNk 2 6 = some 0 := rfl
theorem m_Ln_toldBefore : Cond.static y_Ln_toldBefore.1 ∈ zTb ∧ Cond.initialized y_Ln_toldBefore.1.cls ∈ zTb ∧ Cond.code y_Ln_toldBefore.1 y_Ln_toldBefore.2.1 y_Ln_toldBefore.2.2.1 y_Ln_toldBefore.2.2.2 ∈ zTb ∧ (y_Ln_toldBefore.1.cls ≠ "java/lang/invoke/MethodHandle" ∧ y_Ln_toldBefore.1.cls ≠ "java/lang/invoke/VarHandle" ∧ (parseMethodDescriptor y_Ln_toldBefore.1.desc).map (fun d => d.parameters.length) = some 4) ∧ y_Ln_toldBefore.2.2.1 ≤ 20 :=
  ⟨(zTb_in 1106 (by decide +kernel) (by decide +kernel)), (zTb_in 146 (by decide +kernel) (by decide +kernel)), (zTb_in 1107 (by decide +kernel) (by decide +kernel)), by decide +kernel, by decide +kernel⟩
theorem ls_Ln_42 : zLs "DebtDoors$Lendings" 42 y_Ln_toldBefore 4 := Or.inl ⟨(zTb_in 1105 (by decide +kernel) (by decide +kernel)), m_Ln_toldBefore⟩
theorem lv_Ln_50 : zLv "DebtDoors$Lendings" 50 y_Ru_needOf 4 7 := ⟨⟨(zTb_in 1112 (by decide +kernel) (by decide +kernel)), m_Ru_needOf.1, m_Ru_needOf.2.1, m_Ru_needOf.2.2⟩, _, rfl, rfl⟩
theorem m_Ln_deepestTold : Cond.static y_Ln_deepestTold.1 ∈ zTb ∧ Cond.initialized y_Ln_deepestTold.1.cls ∈ zTb ∧ Cond.code y_Ln_deepestTold.1 y_Ln_deepestTold.2.1 y_Ln_deepestTold.2.2.1 y_Ln_deepestTold.2.2.2 ∈ zTb ∧ (y_Ln_deepestTold.1.cls ≠ "java/lang/invoke/MethodHandle" ∧ y_Ln_deepestTold.1.cls ≠ "java/lang/invoke/VarHandle" ∧ (parseMethodDescriptor y_Ln_deepestTold.1.desc).map (fun d => d.parameters.length) = some 3) ∧ y_Ln_deepestTold.2.2.1 ≤ 20 :=
  ⟨(zTb_in 1109 (by decide +kernel) (by decide +kernel)), (zTb_in 146 (by decide +kernel) (by decide +kernel)), (zTb_in 1110 (by decide +kernel) (by decide +kernel)), by decide +kernel, by decide +kernel⟩
theorem ls_Ln_46 : zLs "DebtDoors$Lendings" 46 y_Ln_deepestTold 3 := Or.inl ⟨(zTb_in 1108 (by decide +kernel) (by decide +kernel)), m_Ln_deepestTold⟩
theorem nk_2_0 : zNk 2 0 = none := rfl
theorem nk_2_1 : zNk 2 1 = none := rfl
theorem nk_2_2 : zNk 2 2 = none := rfl
theorem nk_2_3 : zNk 2 3 = none := rfl
def y_Ln_gather : zMt := (⟨"DebtDoors$Lendings", "gather", "(LDebtDoors$Town;LDebtDoors$Rules;)Z"⟩, prog_4_method_2_code, 7, some .boolean)
theorem d_Ln_gather_0 : decode prog_4_method_2_code 0 = .ok (.aload_n 0, 1) := by decide +kernel
theorem d_Ln_gather_1 : decode prog_4_method_2_code 1 = .ok (.iconst 0, 1) := by decide +kernel
theorem d_Ln_gather_2 : decode prog_4_method_2_code 2 = .ok (.putfield 27, 3) := by decide +kernel
theorem d_Ln_gather_5 : decode prog_4_method_2_code 5 = .ok (.aload_n 0, 1) := by decide +kernel
theorem d_Ln_gather_6 : decode prog_4_method_2_code 6 = .ok (.iconst 0, 1) := by decide +kernel
theorem d_Ln_gather_7 : decode prog_4_method_2_code 7 = .ok (.putfield 31, 3) := by decide +kernel
theorem d_Ln_gather_10 : decode prog_4_method_2_code 10 = .ok (.iconst 0, 1) := by decide +kernel
theorem d_Ln_gather_11 : decode prog_4_method_2_code 11 = .ok (.istore_n 3, 1) := by decide +kernel
theorem d_Ln_gather_12 : decode prog_4_method_2_code 12 = .ok (.iload_n 3, 1) := by decide +kernel
theorem d_Ln_gather_13 : decode prog_4_method_2_code 13 = .ok (.aload_n 1, 1) := by decide +kernel
theorem d_Ln_gather_14 : decode prog_4_method_2_code 14 = .ok (.getfield 34, 3) := by decide +kernel
theorem d_Ln_gather_17 : decode prog_4_method_2_code 17 = .ok (.if_icmp .ge 140, 3) := by decide +kernel
theorem d_Ln_gather_20 : decode prog_4_method_2_code 20 = .ok (.aload_n 1, 1) := by decide +kernel
theorem d_Ln_gather_21 : decode prog_4_method_2_code 21 = .ok (.getfield 39, 3) := by decide +kernel
theorem d_Ln_gather_24 : decode prog_4_method_2_code 24 = .ok (.iload_n 3, 1) := by decide +kernel
theorem d_Ln_gather_25 : decode prog_4_method_2_code 25 = .ok (.aaload, 1) := by decide +kernel
theorem d_Ln_gather_26 : decode prog_4_method_2_code 26 = .ok (.iconst 0, 1) := by decide +kernel
theorem d_Ln_gather_27 : decode prog_4_method_2_code 27 = .ok (.iaload, 1) := by decide +kernel
theorem d_Ln_gather_28 : decode prog_4_method_2_code 28 = .ok (.istore 4, 2) := by decide +kernel
theorem d_Ln_gather_30 : decode prog_4_method_2_code 30 = .ok (.aload_n 1, 1) := by decide +kernel
theorem d_Ln_gather_31 : decode prog_4_method_2_code 31 = .ok (.getfield 39, 3) := by decide +kernel
theorem d_Ln_gather_34 : decode prog_4_method_2_code 34 = .ok (.iload_n 3, 1) := by decide +kernel
theorem d_Ln_gather_35 : decode prog_4_method_2_code 35 = .ok (.aaload, 1) := by decide +kernel
theorem d_Ln_gather_36 : decode prog_4_method_2_code 36 = .ok (.iconst 1, 1) := by decide +kernel
theorem d_Ln_gather_37 : decode prog_4_method_2_code 37 = .ok (.iaload, 1) := by decide +kernel
theorem d_Ln_gather_38 : decode prog_4_method_2_code 38 = .ok (.istore 5, 2) := by decide +kernel
theorem d_Ln_gather_40 : decode prog_4_method_2_code 40 = .ok (.aload_n 1, 1) := by decide +kernel
theorem d_Ln_gather_41 : decode prog_4_method_2_code 41 = .ok (.iload_n 3, 1) := by decide +kernel
theorem d_Ln_gather_42 : decode prog_4_method_2_code 42 = .ok (.iload 4, 2) := by decide +kernel
theorem d_Ln_gather_44 : decode prog_4_method_2_code 44 = .ok (.iload 5, 2) := by decide +kernel
theorem d_Ln_gather_46 : decode prog_4_method_2_code 46 = .ok (.invokestatic 42, 3) := by decide +kernel
theorem d_Ln_gather_49 : decode prog_4_method_2_code 49 = .ok (.ifCond .eq 6, 3) := by decide +kernel
theorem d_Ln_gather_52 : decode prog_4_method_2_code 52 = .ok (.goto 99, 3) := by decide +kernel
theorem d_Ln_gather_55 : decode prog_4_method_2_code 55 = .ok (.aload_n 2, 1) := by decide +kernel
theorem d_Ln_gather_56 : decode prog_4_method_2_code 56 = .ok (.aload_n 1, 1) := by decide +kernel
theorem d_Ln_gather_57 : decode prog_4_method_2_code 57 = .ok (.iload 4, 2) := by decide +kernel
theorem d_Ln_gather_59 : decode prog_4_method_2_code 59 = .ok (.iload 5, 2) := by decide +kernel
theorem d_Ln_gather_61 : decode prog_4_method_2_code 61 = .ok (.aload_n 1, 1) := by decide +kernel
theorem d_Ln_gather_62 : decode prog_4_method_2_code 62 = .ok (.iload 4, 2) := by decide +kernel
theorem d_Ln_gather_64 : decode prog_4_method_2_code 64 = .ok (.iload 5, 2) := by decide +kernel
theorem d_Ln_gather_66 : decode prog_4_method_2_code 66 = .ok (.invokestatic 46, 3) := by decide +kernel
theorem d_Ln_gather_69 : decode prog_4_method_2_code 69 = .ok (.invokevirtual 50, 3) := by decide +kernel
theorem d_Ln_gather_72 : decode prog_4_method_2_code 72 = .ok (.istore 6, 2) := by decide +kernel
theorem d_Ln_gather_74 : decode prog_4_method_2_code 74 = .ok (.iload 6, 2) := by decide +kernel
theorem d_Ln_gather_76 : decode prog_4_method_2_code 76 = .ok (.iconst (-1), 1) := by decide +kernel
theorem d_Ln_gather_77 : decode prog_4_method_2_code 77 = .ok (.if_icmp .ne 5, 3) := by decide +kernel
theorem d_Ln_gather_80 : decode prog_4_method_2_code 80 = .ok (.iconst 0, 1) := by decide +kernel
theorem d_Ln_gather_81 : decode prog_4_method_2_code 81 = .ok (.ireturn, 1) := by decide +kernel
theorem d_Ln_gather_82 : decode prog_4_method_2_code 82 = .ok (.iload 6, 2) := by decide +kernel
theorem d_Ln_gather_84 : decode prog_4_method_2_code 84 = .ok (.ifCond .le 67, 3) := by decide +kernel
theorem d_Ln_gather_87 : decode prog_4_method_2_code 87 = .ok (.aload_n 0, 1) := by decide +kernel
theorem d_Ln_gather_88 : decode prog_4_method_2_code 88 = .ok (.getfield 9, 3) := by decide +kernel
theorem d_Ln_gather_91 : decode prog_4_method_2_code 91 = .ok (.aload_n 0, 1) := by decide +kernel
theorem d_Ln_gather_92 : decode prog_4_method_2_code 92 = .ok (.getfield 27, 3) := by decide +kernel
theorem d_Ln_gather_95 : decode prog_4_method_2_code 95 = .ok (.iload 4, 2) := by decide +kernel
theorem d_Ln_gather_97 : decode prog_4_method_2_code 97 = .ok (.iastore, 1) := by decide +kernel
theorem d_Ln_gather_98 : decode prog_4_method_2_code 98 = .ok (.aload_n 0, 1) := by decide +kernel
theorem d_Ln_gather_99 : decode prog_4_method_2_code 99 = .ok (.getfield 15, 3) := by decide +kernel
theorem d_Ln_gather_102 : decode prog_4_method_2_code 102 = .ok (.aload_n 0, 1) := by decide +kernel
theorem d_Ln_gather_103 : decode prog_4_method_2_code 103 = .ok (.getfield 27, 3) := by decide +kernel
theorem d_Ln_gather_106 : decode prog_4_method_2_code 106 = .ok (.iload 5, 2) := by decide +kernel
theorem d_Ln_gather_108 : decode prog_4_method_2_code 108 = .ok (.iastore, 1) := by decide +kernel
theorem d_Ln_gather_109 : decode prog_4_method_2_code 109 = .ok (.aload_n 0, 1) := by decide +kernel
theorem d_Ln_gather_110 : decode prog_4_method_2_code 110 = .ok (.getfield 18, 3) := by decide +kernel
theorem d_Ln_gather_113 : decode prog_4_method_2_code 113 = .ok (.aload_n 0, 1) := by decide +kernel
theorem d_Ln_gather_114 : decode prog_4_method_2_code 114 = .ok (.getfield 27, 3) := by decide +kernel
theorem d_Ln_gather_117 : decode prog_4_method_2_code 117 = .ok (.iload 6, 2) := by decide +kernel
theorem d_Ln_gather_119 : decode prog_4_method_2_code 119 = .ok (.iastore, 1) := by decide +kernel
theorem d_Ln_gather_120 : decode prog_4_method_2_code 120 = .ok (.aload_n 0, 1) := by decide +kernel
theorem d_Ln_gather_121 : decode prog_4_method_2_code 121 = .ok (.getfield 21, 3) := by decide +kernel
theorem d_Ln_gather_124 : decode prog_4_method_2_code 124 = .ok (.aload_n 0, 1) := by decide +kernel
theorem d_Ln_gather_125 : decode prog_4_method_2_code 125 = .ok (.getfield 27, 3) := by decide +kernel
theorem d_Ln_gather_128 : decode prog_4_method_2_code 128 = .ok (.iload_n 3, 1) := by decide +kernel
theorem d_Ln_gather_129 : decode prog_4_method_2_code 129 = .ok (.iastore, 1) := by decide +kernel
theorem d_Ln_gather_130 : decode prog_4_method_2_code 130 = .ok (.aload_n 0, 1) := by decide +kernel
theorem d_Ln_gather_131 : decode prog_4_method_2_code 131 = .ok (.dup, 1) := by decide +kernel
theorem d_Ln_gather_132 : decode prog_4_method_2_code 132 = .ok (.getfield 27, 3) := by decide +kernel
theorem d_Ln_gather_135 : decode prog_4_method_2_code 135 = .ok (.iconst 1, 1) := by decide +kernel
theorem d_Ln_gather_136 : decode prog_4_method_2_code 136 = .ok (.iadd, 1) := by decide +kernel
theorem d_Ln_gather_137 : decode prog_4_method_2_code 137 = .ok (.putfield 27, 3) := by decide +kernel
theorem d_Ln_gather_140 : decode prog_4_method_2_code 140 = .ok (.aload_n 0, 1) := by decide +kernel
theorem d_Ln_gather_141 : decode prog_4_method_2_code 141 = .ok (.dup, 1) := by decide +kernel
theorem d_Ln_gather_142 : decode prog_4_method_2_code 142 = .ok (.getfield 31, 3) := by decide +kernel
theorem d_Ln_gather_145 : decode prog_4_method_2_code 145 = .ok (.iload 6, 2) := by decide +kernel
theorem d_Ln_gather_147 : decode prog_4_method_2_code 147 = .ok (.iadd, 1) := by decide +kernel
theorem d_Ln_gather_148 : decode prog_4_method_2_code 148 = .ok (.putfield 31, 3) := by decide +kernel
theorem d_Ln_gather_151 : decode prog_4_method_2_code 151 = .ok (.iinc 3 1, 3) := by decide +kernel
theorem d_Ln_gather_154 : decode prog_4_method_2_code 154 = .ok (.goto (-142), 3) := by decide +kernel
theorem d_Ln_gather_157 : decode prog_4_method_2_code 157 = .ok (.iconst 1, 1) := by decide +kernel
theorem d_Ln_gather_158 : decode prog_4_method_2_code 158 = .ok (.ireturn, 1) := by decide +kernel
def w_Ln_gather {d : Nat} (hd : 4 ≤ d) := (show SS ("DebtDoors$Lendings", prog_4_method_2_code, 7) (some .boolean) d 0 0 0 0 _ from (sS (p1 := 5) (sP 5 fl_Ln_27 fp_2_5 nk_2_5 (rAn 0 d_Ln_gather_0 rfl) (xE (rI d_Ln_gather_1 rfl)) d_Ln_gather_2 rfl) (sS (p1 := 10) (sP 6 fl_Ln_31 fp_2_6 nk_2_6 (rAn 0 d_Ln_gather_5 rfl) (xE (rI d_Ln_gather_6 rfl)) d_Ln_gather_7 rfl) (sS (p1 := 157) (sS (p1 := 12) (sIn 3 (xE (rI d_Ln_gather_10 rfl)) d_Ln_gather_11 rfl (by decide)) (sLp (ps := 151) (tt := 20) (pn := 157) (p1 := 0) (p2 := 0) (xC (rNot (rJ2 (tgt := 157) j_ge (rIn 3 d_Ln_gather_12 rfl) (rF 8 fl_Ln_34 nk_9_8 (rAn 1 d_Ln_gather_13 rfl) d_Ln_gather_14 rfl) d_Ln_gather_17 (by decide)))) (sS (p1 := 30) (sI (xE (rIa (rAa (rFr fl_Ln_39 nk_9_3 (rAn 1 d_Ln_gather_20 rfl) d_Ln_gather_21) (rIn 3 d_Ln_gather_24 rfl) d_Ln_gather_25) (rI d_Ln_gather_26 rfl) d_Ln_gather_27)) d_Ln_gather_28 (by decide)) (sS (p1 := 40) (sI (xE (rIa (rAa (rFr fl_Ln_39 nk_9_3 (rAn 1 d_Ln_gather_30 rfl) d_Ln_gather_31) (rIn 3 d_Ln_gather_34 rfl) d_Ln_gather_35) (rI d_Ln_gather_36 rfl) d_Ln_gather_37)) d_Ln_gather_38 (by decide)) (sS (p1 := 55) (sIf (pn := 55) (tt := 151) (xC (rGt (p2 := 151) (rNot (rJ1 (tgt := 55) k_eq (rS p_Ln_toldBefore (Nat.le_trans (Nat.le_of_ble_eq_true rfl) hd) ls_Ln_42 (rAi (rAi (rAi (rAr rA0 (rAn 1 d_Ln_gather_40 rfl)) (rIn 3 d_Ln_gather_41 rfl)) (rIl d_Ln_gather_42)) (rIl d_Ln_gather_44)) (by decide) d_Ln_gather_46) d_Ln_gather_49 (by decide))) d_Ln_gather_52 (by decide))) sCo0) (sS (p1 := 74) (sI (xV lv_Ln_50 (xA (rAi (rAi (rAi (rAr (rAr rA0 (rAn 2 d_Ln_gather_55 rfl)) (rAn 1 d_Ln_gather_56 rfl)) (rIl d_Ln_gather_57)) (rIl d_Ln_gather_59)) (rS p_Ln_deepestTold (Nat.le_trans (Nat.le_of_ble_eq_true rfl) hd) ls_Ln_46 (rAi (rAi (rAr rA0 (rAn 1 d_Ln_gather_61 rfl)) (rIl d_Ln_gather_62)) (rIl d_Ln_gather_64)) (by decide) d_Ln_gather_66))) (by decide) d_Ln_gather_69) d_Ln_gather_72 (by decide)) (sS (p1 := 82) (sIf (pn := 82) (tt := 80) (xC (rNot (rJ2 (tgt := 82) j_ne (rIl d_Ln_gather_74) (rI d_Ln_gather_76 rfl) d_Ln_gather_77 (by decide)))) (sRz (xE (rI d_Ln_gather_80 rfl)) d_Ln_gather_81 rfl)) (sIf (pn := 151) (tt := 87) (xC (rNot (rJ1 (tgt := 151) k_le (rIl d_Ln_gather_82) d_Ln_gather_84 (by decide)))) (sS (p1 := 98) (sAs (rFr fl_Ln_9 nk_2_0 (rAn 0 d_Ln_gather_87 rfl) d_Ln_gather_88) (rF 5 fl_Ln_27 nk_2_5 (rAn 0 d_Ln_gather_91 rfl) d_Ln_gather_92 rfl) (xE (rIl d_Ln_gather_95)) d_Ln_gather_97) (sS (p1 := 109) (sAs (rFr fl_Ln_15 nk_2_1 (rAn 0 d_Ln_gather_98 rfl) d_Ln_gather_99) (rF 5 fl_Ln_27 nk_2_5 (rAn 0 d_Ln_gather_102 rfl) d_Ln_gather_103 rfl) (xE (rIl d_Ln_gather_106)) d_Ln_gather_108) (sS (p1 := 120) (sAs (rFr fl_Ln_18 nk_2_2 (rAn 0 d_Ln_gather_109 rfl) d_Ln_gather_110) (rF 5 fl_Ln_27 nk_2_5 (rAn 0 d_Ln_gather_113 rfl) d_Ln_gather_114 rfl) (xE (rIl d_Ln_gather_117)) d_Ln_gather_119) (sS (p1 := 130) (sAs (rFr fl_Ln_21 nk_2_3 (rAn 0 d_Ln_gather_120 rfl) d_Ln_gather_121) (rF 5 fl_Ln_27 nk_2_5 (rAn 0 d_Ln_gather_124 rfl) d_Ln_gather_125 rfl) (xE (rIn 3 d_Ln_gather_128 rfl)) d_Ln_gather_129) (sS (p1 := 140) (sPo 5 o_add fl_Ln_27 fp_2_5 nk_2_5 (rAn 0 d_Ln_gather_130 rfl) d_Ln_gather_131 d_Ln_gather_132 (rI d_Ln_gather_135 rfl) d_Ln_gather_136 d_Ln_gather_137 rfl) (sPo 6 o_add fl_Ln_31 fp_2_6 nk_2_6 (rAn 0 d_Ln_gather_140 rfl) d_Ln_gather_141 d_Ln_gather_142 (rIl d_Ln_gather_145) d_Ln_gather_147 d_Ln_gather_148 rfl)))))))))))) (sGo (pn := 12) (sInc d_Ln_gather_151 (by decide)) d_Ln_gather_154 (by decide)))) (sRz (xE (rI d_Ln_gather_157 rfl)) d_Ln_gather_158 rfl)))))
theorem q_Ln_gather {d : Nat} (hd : 8 ≤ d) {μ : zMem} {Z : Zt} {F : Option (List Cls)} {A : Lg} {w : Int → Int} {V : List D4} (hC : CTx μ Z F A w) (hV : VCx 11 8 999 μ V) : zSp d 0 0 y_Ln_gather zT0 [vr 328, vr 1, vr 324] μ zT0 (fun q μ' => zfc [325, 326, 327, 328, 329, 330, 331, 332] μ μ' ∧ wK w (μ' 326) ∧ ((lgS (ndA Z F A w) V V.length = none → q = some (vi 0)) ∧ ∀ L, lgS (ndA Z F A w) V V.length = some L → q = some (vi 1) ∧ μ' 328 5 = (L.length : Int) ∧ μ' 328 6 = toS L ∧ LnC L μ')) := by
  have hw := hC.2.2.2.2.2
  have h8 := hV.1
  have hl := hV.l
  refine zSp.ss [vr 328, vr 1, vr 324, vx 0, vx 0, vx 0, vx 0] rfl (w_Ln_gather (Nat.le_trans (by decide) hd)) rfl rfl ?_
  (try simp only [zit_e, Bool.and_eq_true, Bool.or_eq_true, Bool.not_eq_true', Bool.and_eq_false_iff, Bool.or_eq_false_iff, Bool.not_eq_false', zbe, zdt, zdf, zb2_p, zbp_0, zbp_1, zbp_inj, zbp_01, Bool.true_eq_false, Bool.false_eq_true, true_and, and_true, Decidable.not_not, Classical.not_not, implies_true, List.nil_append, List.cons_append, List.append_assoc, Option.some.injEq, Sum.inl.injEq, zSw_c, zSw_n]); (try simp only [zit_e, Bool.and_eq_true, Bool.or_eq_true, Bool.not_eq_true', Bool.and_eq_false_iff, Bool.or_eq_false_iff, Bool.not_eq_false', zbe, zdt, zdf, zb2_p, zbp_0, zbp_1, zbp_inj, zbp_01, Bool.true_eq_false, Bool.false_eq_true, true_and, and_true, Decidable.not_not, Classical.not_not, implies_true, List.nil_append, List.cons_append, List.append_assoc, Option.some.injEq, Sum.inl.injEq, zSw_c, zSw_n, zc_328, zc_1]); (try simp only [zi_cs, zi_c0, zii_cs, zii_c0, zl_cs, zl_c0, zll_cs, zll_c0, zr_cs, zr_c0, zrr_cs, zrr_c0, zxs_cs, zxs_c0, zxx_cs, zxx_c0, zfree_c0, zfree_c1, zfree_cs, zfree_cz, zlong_i, zlong_r, zlong_x, zset_0, zset_s, true_and, and_true, Option.some.injEq, Sum.inl.injEq, Sum.inr.injEq, zb2_p, zbp_0, zbp_1, zbp_inj, zbp_01, Nat.zero_add, Nat.reduceAdd, implies_true, List.nil_append, List.cons_append, List.append_assoc, Int.not_lt, Int.not_le, Decidable.not_not, Int.zero_add, Int.reduceLE, Int.reduceLT, Int.reduceEq, Int.reduceNe, Int.reduceAdd, Int.reduceSub, Int.reduceMul, Int.reduceNeg, Int.reduceToNat, Nat.reduceMul, Nat.reduceLT, Nat.reduceEqDiff, and_self, ite_true, ite_false, zx1, zx2, zRecv, List.length_cons, List.length_nil, ne_eq, not_true_eq_false, not_false_eq_true, true_or, or_true, or_false, false_or, and_false, false_and, zf01, zf10, reduceCtorEq, zSw_c, zSw_n, zm_r, zit_T, zit_F, false_implies, true_implies, zc_328, zc_1])
  refine zLoop.up V.length (fun j ρ μ1 => ∃ x4 x5 x6 : zV, ρ = [vr 328, vr 1, vr 324, vi j, x4, x5, x6] ∧ zfc [325, 326, 327, 328, 329, 330, 331, 332] μ μ1 ∧ wK w (μ1 326) ∧ ∃ L, lgS (ndA Z F A w) V j = some L ∧ μ1 328 5 = (L.length : Int) ∧ μ1 328 6 = toS L ∧ LnC L μ1) ⟨_, _, _, rfl, (zfc.rf.zm (by decide)).zm (by decide), by rw [zm_off _ (by decide), zm_off _ (by decide)]; exact hw, [], rfl, by rw [zm_o (by omega), zm_s]; rfl, by rw [zm_s]; rfl, fun i hi => absurd hi (Nat.not_lt_zero i)⟩ ?_
  rintro j ρ μ1 hj ⟨x4, x5, x6, rfl, hF, hw1, L, hL, h5, h6, hA⟩
  have hC1 : CTx μ1 Z F A w := hC.k (fun c hc => hF c (by simp only [List.mem_cons, List.not_mem_nil, or_false]; omega)) hw1
  have hV1 : VCx 11 8 999 μ1 V := hV.k (hF 1 (by decide)) (fun c p q => hF c (by simp only [List.mem_cons, List.not_mem_nil, or_false]; omega))
  have hl1 := hV1.l
  have hin := lgS_in (nd := ndA Z F A w) hV.2.2 (fun _ _ _ => ndA_in) j hj L hL
  have hts := toS_in hin.2
  (try simp only [zit_e, Bool.and_eq_true, Bool.or_eq_true, Bool.not_eq_true', Bool.and_eq_false_iff, Bool.or_eq_false_iff, Bool.not_eq_false', zbe, zdt, zdf, zb2_p, zbp_0, zbp_1, zbp_inj, zbp_01, Bool.true_eq_false, Bool.false_eq_true, true_and, and_true, Decidable.not_not, Classical.not_not, implies_true, List.nil_append, List.cons_append, List.append_assoc, Option.some.injEq, Sum.inl.injEq, zSw_c, zSw_n]); (try simp only [zit_e, Bool.and_eq_true, Bool.or_eq_true, Bool.not_eq_true', Bool.and_eq_false_iff, Bool.or_eq_false_iff, Bool.not_eq_false', zbe, zdt, zdf, zb2_p, zbp_0, zbp_1, zbp_inj, zbp_01, Bool.true_eq_false, Bool.false_eq_true, true_and, and_true, Decidable.not_not, Classical.not_not, implies_true, List.nil_append, List.cons_append, List.append_assoc, Option.some.injEq, Sum.inl.injEq, zSw_c, zSw_n, zc_328, zc_1, zc_324, f_Ln_toldBefore, g_Ln_toldBefore, f_Ln_deepestTold, g_Ln_deepestTold]); (try simp only [zi_cs, zi_c0, zii_cs, zii_c0, zl_cs, zl_c0, zll_cs, zll_c0, zr_cs, zr_c0, zrr_cs, zrr_c0, zxs_cs, zxs_c0, zxx_cs, zxx_c0, zfree_c0, zfree_c1, zfree_cs, zfree_cz, zlong_i, zlong_r, zlong_x, zset_0, zset_s, true_and, and_true, Option.some.injEq, Sum.inl.injEq, Sum.inr.injEq, zb2_p, zbp_0, zbp_1, zbp_inj, zbp_01, Nat.zero_add, Nat.reduceAdd, implies_true, List.nil_append, List.cons_append, List.append_assoc, Int.not_lt, Int.not_le, Decidable.not_not, Int.zero_add, Int.reduceLE, Int.reduceLT, Int.reduceEq, Int.reduceNe, Int.reduceAdd, Int.reduceSub, Int.reduceMul, Int.reduceNeg, Int.reduceToNat, Nat.reduceMul, Nat.reduceLT, Nat.reduceEqDiff, and_self, ite_true, ite_false, zx1, zx2, zRecv, List.length_cons, List.length_nil, ne_eq, not_true_eq_false, not_false_eq_true, true_or, or_true, or_false, false_or, and_false, false_and, zf01, zf10, reduceCtorEq, zSw_c, zSw_n, zm_r, zit_T, zit_F, false_implies, true_implies, zc_328, zc_1, zc_324, f_Ln_toldBefore, g_Ln_toldBefore, f_Ln_deepestTold, g_Ln_deepestTold])
  rw [hl1]
  refine zif (fun c => ?_) (fun c => ?_)
  · have hz := zpa10 (i := j) (by omega) (by omega)
    obtain ⟨⟨e1, e2, e3, e4⟩, e5⟩ := hV1.e (k := j) (by omega) c
    rw [hz.1.1]
    simp only [hz.2.1.1, hz.2.1.2]
    rw [e1, e2]
    have hex : (∃ k : Nat, (k : Int) < (j : Int) ∧ μ1 (11 + k) 0 = μ1 (zpa (zptr 1 3) j) 0 ∧ μ1 (11 + k) 1 = μ1 (zpa (zptr 1 3) j) 1) ↔ ∃ k : Nat, k < j ∧ alk V k j := by
      rw [show zptr 1 3 = 10 from zc_1.1.2.2.2.2.1, hz.1.1, e1, e2]
      constructor
      · rintro ⟨k, q1, q2, q3⟩
        have := (hV1.e (k := k) (by omega) (by omega)).1
        rw [Int.toNat_natCast] at this
        exact ⟨k, by omega, by rw [← this.1]; exact q2, by rw [← this.2.1]; exact q3⟩
      · rintro ⟨k, q1, q2, q3⟩
        have := (hV1.e (k := k) (by omega) (by omega)).1
        rw [Int.toNat_natCast] at this
        exact ⟨k, by omega, by rw [this.1]; exact q2, by rw [this.2.1]; exact q3⟩
    have hls := lgS_s hL
    refine ⟨by ((repeat' apply And.intro) <;> (first | omega | (simp only [zI_e]; omega) | exact True.intro | (intro _; (repeat' apply And.intro) <;> (first | omega | (simp only [zI_e]; omega) | exact True.intro)))), by ((repeat' apply And.intro) <;> (first | omega | (simp only [zI_e]; omega) | exact True.intro | (intro _; (repeat' apply And.intro) <;> (first | omega | (simp only [zI_e]; omega) | exact True.intro)))), by omega, ?_⟩
    have nx : ∀ {y4 y5 y6 : zV} {μ2 : zMem} {L2 : List D4}, zfc [325, 326, 327, 328, 329, 330, 331, 332] μ μ2 → wK w (μ2 326) → lgS (ndA Z F A w) V (j + 1) = some L2 → μ2 328 5 = (L2.length : Int) → μ2 328 6 = toS L2 → LnC L2 μ2 → zI ((j : Int) + 1) ∧ ∃ m', m' < V.length - j ∧ ∃ j', m' = V.length - j' ∧ j' ≤ V.length ∧ ∃ x4 x5 x6 : zV, [vr 328, vr 1, vr 324, vi ((j : Int) + 1), y4, y5, y6] = [vr 328, vr 1, vr 324, vi j', x4, x5, x6] ∧ zfc [325, 326, 327, 328, 329, 330, 331, 332] μ μ2 ∧ wK w (μ2 326) ∧ ∃ L, lgS (ndA Z F A w) V j' = some L ∧ μ2 328 5 = (L.length : Int) ∧ μ2 328 6 = toS L ∧ LnC L μ2 := by
      intro y4 y5 y6 μ2 L2 q1 q2 q3 q4 q5 q6
      exact ⟨zI_s (by omega) (by omega), V.length - (j + 1), by omega, j + 1, rfl, by omega, y4, y5, y6, rfl, q1, q2, L2, q3, q4, q5, q6⟩
    refine zif (fun c1 => ?_) (fun c1 => ?_)
    · rw [zbp_0, hex] at c1
      exact nx hF hw1 (hls.1 (Classical.not_not.mp c1)) h5 h6 hA
    rw [zbp_0, hex] at c1
    have c1 : ¬ ∃ k : Nat, k < j ∧ alk V k j := fun q => c1 (fun z => z q)
    have hls := hls.2 c1
    rw [Int.toNat_natCast, mxM_R hV1 V.length (Nat.le_refl _)]
    have hmx := mxR_in (V := V) (i := j) hV.2.2 V.length (Nat.le_refl _)
    refine ⟨⟨by omega, fun o ho => ?_⟩, ?_⟩
    · have := hV1.e (k := o) (by omega) ho
      have t1 := this.1.2.2.1
      have t2 := this.2.2.2.2.1
      rw [Int.toNat_natCast] at t1
      omega
    obtain ⟨o1, o2, o3, o4, o5⟩ := e5
    refine zCw.use (q_Ru_needOf (d := 7) (by decide) hC1 o1 o2) (by omega) (fun q μ2 e => ?_)
    obtain ⟨rfl, hF2⟩ := e
    have hnd := ndA_in (Z := Z) (F := F) (A := A) (w := w) (v := (dfV V j).1) (h := (dfV V j).2.1) (r := mxR V j V.length)
    generalize hn : ndA Z F A w (dfV V j).1 (dfV V j).2.1 (mxR V j V.length) = n at *
    have hF3 : zfc [325, 326, 327, 328, 329, 330, 331, 332] μ μ2 := (hF.tr hF2.1).mo (by simp)
    have k328 : μ2 328 = μ1 328 := hF2.1 328 (by decide)
    have kA : LnC L μ2 := by
      unfold LnC
      rw [hF2.1 329 (by decide), hF2.1 330 (by decide), hF2.1 331 (by decide), hF2.1 332 (by decide)]
      exact hA
    refine ⟨_, rfl, ?_⟩
    refine zif (fun c2 => ?_) (fun c2 => ?_)
    · have e9 := lgS_n (hls.1 c2) (V.length - (j + 1))
      rw [show j + 1 + (V.length - (j + 1)) = V.length by omega] at e9
      exact ⟨hF3, hF2.2, fun L2 q => by rw [e9] at q; cases q⟩
    refine zif (fun c3 => ?_) (fun c3 => ?_)
    · rw [k328, h5, h6]
      have hl2 := (hls.2 c2).2 (by omega)
      refine ⟨by omega, by omega, by omega, by omega, by omega, by omega, by omega, by omega, zI_s (by omega) (by omega), zI_s (by omega) (by omega), ?_⟩
      refine nx ?_ ?_ hl2 ?_ ?_ ?_
      · exact (((((hF3.zm (by decide)).zm (by decide)).zm (by decide)).zm (by decide)).zm (by decide)).zm (by decide)
      · rw [zm_off _ (by decide), zm_off _ (by decide), zm_off _ (by decide), zm_off _ (by decide), zm_off _ (by decide), zm_off _ (by decide)]
        exact hF2.2
      · rw [zm_o (by omega), zm_s, List.length_append, List.length_singleton]
        rfl
      · rw [zm_s, toS_app]
      · intro i hi
        rw [List.length_append, List.length_singleton] at hi
        rw [dfV_app (by omega)]
        by_cases ei : i = L.length
        · subst ei
          rw [if_neg (by omega), if_pos rfl, zm_o (by omega), zm_o (by omega), zm_o (by omega), zm_o (by omega), zm_o (by omega), zm_s, zm_o (by omega), zm_o (by omega), zm_o (by omega), zm_o (by omega), zm_s, zm_o (by omega), zm_o (by omega), zm_o (by omega), zm_s, zm_o (by omega), zm_o (by omega), zm_s]
          exact ⟨⟨rfl, rfl⟩, rfl, rfl⟩
        · rw [if_pos (by omega)]
          (repeat rw [zm_o (by omega)])
          exact kA i (by omega)
    · exact nx hF3 hF2.2 ((hls.2 c2).1 (by omega)) (by rw [k328]; exact h5) (by rw [k328]; exact h6) kA
  · have ej : j = V.length := by omega
    subst ej
    exact ⟨hF, hw1, fun q => (by rw [hL] at q; cases q), fun L2 q => (by rw [hL] at q; cases q; exact ⟨h5, h6, hA⟩)⟩

