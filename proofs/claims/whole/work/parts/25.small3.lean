/-! small methods that ask of debts and people -/
theorem lv_D_137 : zLv "DebtDoors" 137 y_To_has 1 9 := ⟨⟨(zTb_in 621 (by decide +kernel) (by decide +kernel)), m_To_has.1, m_To_has.2.1, m_To_has.2.2⟩, _, rfl, rfl⟩
theorem nk_11_0 : zNk 11 0 = none := rfl
theorem fl_D_153 : zFl "DebtDoors" 153 1 5 := ⟨_, rfl, by decide, (zTb_in 204 (by decide +kernel) (by decide +kernel)), rfl⟩
theorem fl_D_115 : zFl "DebtDoors" 115 9 0 := ⟨_, rfl, by decide, (zTb_in 231 (by decide +kernel) (by decide +kernel)), rfl⟩
def y_D_debtRefusal : zMt := (⟨"DebtDoors", "debtRefusal", "(III)I"⟩, prog_1_method_7_code, 4, some .int)
theorem d_D_debtRefusal_0 : decode prog_1_method_7_code 0 = .ok (.iload_n 1, 1) := by decide +kernel
theorem d_D_debtRefusal_1 : decode prog_1_method_7_code 1 = .ok (.iload_n 2, 1) := by decide +kernel
theorem d_D_debtRefusal_2 : decode prog_1_method_7_code 2 = .ok (.if_icmp .eq 14, 3) := by decide +kernel
theorem d_D_debtRefusal_5 : decode prog_1_method_7_code 5 = .ok (.iload_n 3, 1) := by decide +kernel
theorem d_D_debtRefusal_6 : decode prog_1_method_7_code 6 = .ok (.iconst 1, 1) := by decide +kernel
theorem d_D_debtRefusal_7 : decode prog_1_method_7_code 7 = .ok (.sipush 9999, 3) := by decide +kernel
theorem d_D_debtRefusal_10 : decode prog_1_method_7_code 10 = .ok (.invokestatic 104, 3) := by decide +kernel
theorem d_D_debtRefusal_13 : decode prog_1_method_7_code 13 = .ok (.ifCond .ne 5, 3) := by decide +kernel
theorem d_D_debtRefusal_16 : decode prog_1_method_7_code 16 = .ok (.iconst (-1), 1) := by decide +kernel
theorem d_D_debtRefusal_17 : decode prog_1_method_7_code 17 = .ok (.ireturn, 1) := by decide +kernel
theorem d_D_debtRefusal_18 : decode prog_1_method_7_code 18 = .ok (.aload_n 0, 1) := by decide +kernel
theorem d_D_debtRefusal_19 : decode prog_1_method_7_code 19 = .ok (.getfield 12, 3) := by decide +kernel
theorem d_D_debtRefusal_22 : decode prog_1_method_7_code 22 = .ok (.iload_n 1, 1) := by decide +kernel
theorem d_D_debtRefusal_23 : decode prog_1_method_7_code 23 = .ok (.invokevirtual 137, 3) := by decide +kernel
theorem d_D_debtRefusal_26 : decode prog_1_method_7_code 26 = .ok (.ifCond .eq 14, 3) := by decide +kernel
theorem d_D_debtRefusal_29 : decode prog_1_method_7_code 29 = .ok (.aload_n 0, 1) := by decide +kernel
theorem d_D_debtRefusal_30 : decode prog_1_method_7_code 30 = .ok (.getfield 12, 3) := by decide +kernel
theorem d_D_debtRefusal_33 : decode prog_1_method_7_code 33 = .ok (.iload_n 2, 1) := by decide +kernel
theorem d_D_debtRefusal_34 : decode prog_1_method_7_code 34 = .ok (.invokevirtual 137, 3) := by decide +kernel
theorem d_D_debtRefusal_37 : decode prog_1_method_7_code 37 = .ok (.ifCond .ne 6, 3) := by decide +kernel
theorem d_D_debtRefusal_40 : decode prog_1_method_7_code 40 = .ok (.bipush (-2), 2) := by decide +kernel
theorem d_D_debtRefusal_42 : decode prog_1_method_7_code 42 = .ok (.ireturn, 1) := by decide +kernel
theorem d_D_debtRefusal_43 : decode prog_1_method_7_code 43 = .ok (.aload_n 0, 1) := by decide +kernel
theorem d_D_debtRefusal_44 : decode prog_1_method_7_code 44 = .ok (.getfield 12, 3) := by decide +kernel
theorem d_D_debtRefusal_47 : decode prog_1_method_7_code 47 = .ok (.getfield 115, 3) := by decide +kernel
theorem d_D_debtRefusal_50 : decode prog_1_method_7_code 50 = .ok (.getfield 153, 3) := by decide +kernel
theorem d_D_debtRefusal_53 : decode prog_1_method_7_code 53 = .ok (.bipush 16, 2) := by decide +kernel
theorem d_D_debtRefusal_55 : decode prog_1_method_7_code 55 = .ok (.if_icmp .ge 7, 3) := by decide +kernel
theorem d_D_debtRefusal_58 : decode prog_1_method_7_code 58 = .ok (.iconst 0, 1) := by decide +kernel
theorem d_D_debtRefusal_59 : decode prog_1_method_7_code 59 = .ok (.goto 5, 3) := by decide +kernel
theorem d_D_debtRefusal_62 : decode prog_1_method_7_code 62 = .ok (.bipush (-5), 2) := by decide +kernel
theorem d_D_debtRefusal_64 : decode prog_1_method_7_code 64 = .ok (.ireturn, 1) := by decide +kernel
def w_D_debtRefusal {d : Nat} (hd : 2 ≤ d) := (show SS ("DebtDoors", prog_1_method_7_code, 4) (some .int) d 0 0 0 0 _ from (sS (p1 := 18) (sIf (pn := 18) (tt := 16) (xC (rOr (mm := 5) (rJ2 (tgt := 16) j_eq (rIn 1 d_D_debtRefusal_0 rfl) (rIn 2 d_D_debtRefusal_1 rfl) d_D_debtRefusal_2 (by decide)) (rNot (rJ1 (tgt := 18) k_ne (rS p_D_between (Nat.le_trans (Nat.le_of_ble_eq_true rfl) hd) ls_D_104 (rAi (rAi (rAi rA0 (rIn 3 d_D_debtRefusal_5 rfl)) (rI d_D_debtRefusal_6 rfl)) (rSi d_D_debtRefusal_7 rfl)) (by decide) d_D_debtRefusal_10) d_D_debtRefusal_13 (by decide))))) (sRi (xE (rI d_D_debtRefusal_16 rfl)) d_D_debtRefusal_17 rfl)) (sS (p1 := 43) (sIf (pn := 43) (tt := 40) (xC (rOr (mm := 29) (rNot (rNot (rJ1 (tgt := 40) k_eq (rV p_To_has (Nat.le_trans (Nat.le_of_ble_eq_true rfl) hd) lv_D_137 (rAi (rAr rA0 (rFr fl_D_12 nk_11_0 (rAn 0 d_D_debtRefusal_18 rfl) d_D_debtRefusal_19)) (rIn 1 d_D_debtRefusal_22 rfl)) (by decide) d_D_debtRefusal_23) d_D_debtRefusal_26 (by decide)))) (rNot (rJ1 (tgt := 43) k_ne (rV p_To_has (Nat.le_trans (Nat.le_of_ble_eq_true rfl) hd) lv_D_137 (rAi (rAr rA0 (rFr fl_D_12 nk_11_0 (rAn 0 d_D_debtRefusal_29 rfl) d_D_debtRefusal_30)) (rIn 2 d_D_debtRefusal_33 rfl)) (by decide) d_D_debtRefusal_34) d_D_debtRefusal_37 (by decide))))) (sRi (xE (rB d_D_debtRefusal_40 rfl)) d_D_debtRefusal_42 rfl)) (sRi (xE (rT2 (rNot (rJ2 (tgt := 62) j_ge (rF 5 fl_D_153 nk_1_5 (rFr fl_D_115 nk_9_0 (rFr fl_D_12 nk_11_0 (rAn 0 d_D_debtRefusal_43 rfl) d_D_debtRefusal_44) d_D_debtRefusal_47) d_D_debtRefusal_50 rfl) (rB d_D_debtRefusal_53 rfl) d_D_debtRefusal_55 (by decide))) (rGoE (p2 := 64) (rI d_D_debtRefusal_58 rfl) d_D_debtRefusal_59 (by decide)) (rB d_D_debtRefusal_62 rfl))) d_D_debtRefusal_64 rfl))))
noncomputable def f_D_debtRefusal : List zV → zMem → Int
  | [.inr (.inr (.inl q0)), .inl a, .inl b, .inl m], μ => if a = b ∨ ¬ (1 ≤ m ∧ m ≤ 9999) then -1 else if ¬ ((0 ≤ a ∧ a < μ 1 6) ∧ 0 ≤ b ∧ b < μ 1 6) then -2 else if μ 2 5 < 16 then 0 else -5
  | _, _ => 0
def g_D_debtRefusal : List zV → zMem → Prop
  | [.inr (.inr (.inl q0)), .inl a, .inl b, .inl m], μ => q0 = 0 ∧ (True)
  | _, _ => False
theorem p_D_debtRefusal : zPu y_D_debtRefusal 2 f_D_debtRefusal g_D_debtRefusal := by
  intro as μ h
  unfold g_D_debtRefusal at h
  split at h
  · next q0 a b m =>
    obtain ⟨rfl, h⟩ := h
    refine zSp.ss [vr 0, vi a, vi b, vi m] rfl (w_D_debtRefusal (Nat.le_refl _)) rfl rfl ?_
    (try simp only [zit_e, Bool.and_eq_true, Bool.or_eq_true, Bool.not_eq_true', Bool.and_eq_false_iff, Bool.or_eq_false_iff, Bool.not_eq_false', zbe, zdt, zdf, zb2_p, zbp_0, zbp_1, zbp_inj, zbp_01, Bool.true_eq_false, Bool.false_eq_true, true_and, and_true, Decidable.not_not, Classical.not_not, implies_true, List.nil_append, List.cons_append, List.append_assoc, Option.some.injEq, Sum.inl.injEq, zSw_c, zSw_n]); (try simp only [zit_e, Bool.and_eq_true, Bool.or_eq_true, Bool.not_eq_true', Bool.and_eq_false_iff, Bool.or_eq_false_iff, Bool.not_eq_false', zbe, zdt, zdf, zb2_p, zbp_0, zbp_1, zbp_inj, zbp_01, Bool.true_eq_false, Bool.false_eq_true, true_and, and_true, Decidable.not_not, Classical.not_not, implies_true, List.nil_append, List.cons_append, List.append_assoc, Option.some.injEq, Sum.inl.injEq, zSw_c, zSw_n, f_D_debtRefusal, f_D_between, g_D_between, f_To_has, g_To_has, zc_0, zc_1, zc_2]); (try simp only [zi_cs, zi_c0, zii_cs, zii_c0, zl_cs, zl_c0, zll_cs, zll_c0, zr_cs, zr_c0, zrr_cs, zrr_c0, zxs_cs, zxs_c0, zxx_cs, zxx_c0, zfree_c0, zfree_c1, zfree_cs, zfree_cz, zlong_i, zlong_r, zlong_x, zset_0, zset_s, true_and, and_true, Option.some.injEq, Sum.inl.injEq, Sum.inr.injEq, zb2_p, zbp_0, zbp_1, zbp_inj, zbp_01, Nat.zero_add, Nat.reduceAdd, implies_true, List.nil_append, List.cons_append, List.append_assoc, Int.not_lt, Int.not_le, Decidable.not_not, Int.zero_add, Int.reduceLE, Int.reduceLT, Int.reduceEq, Int.reduceNe, Int.reduceAdd, Int.reduceSub, Int.reduceMul, Int.reduceNeg, Int.reduceToNat, Nat.reduceMul, Nat.reduceLT, Nat.reduceEqDiff, and_self, ite_true, ite_false, zx1, zx2, zRecv, List.length_cons, List.length_nil, ne_eq, not_true_eq_false, not_false_eq_true, true_or, or_true, or_false, false_or, and_false, false_and, zf01, zf10, reduceCtorEq, zSw_c, zSw_n, zm_r, zit_T, zit_F, false_implies, true_implies, f_D_debtRefusal, f_D_between, g_D_between, f_To_has, g_To_has, zc_0, zc_1, zc_2])
    have h0 := h
    ((try simp only [zI_e]); (try unfold zit); (repeat' (first | done | omega | assumption | exact h.1 | apply And.intro | intro _ | split | rfl | assumption | (congr 1; omega))))
  · exact h.elim
theorem m_M_isAmount : Cond.static y_M_isAmount.1 ∈ zTb ∧ Cond.initialized y_M_isAmount.1.cls ∈ zTb ∧ Cond.code y_M_isAmount.1 y_M_isAmount.2.1 y_M_isAmount.2.2.1 y_M_isAmount.2.2.2 ∈ zTb ∧ (y_M_isAmount.1.cls ≠ "java/lang/invoke/MethodHandle" ∧ y_M_isAmount.1.cls ≠ "java/lang/invoke/VarHandle" ∧ (parseMethodDescriptor y_M_isAmount.1.desc).map (fun d => d.parameters.length) = some 1) ∧ y_M_isAmount.2.2.1 ≤ 20 :=
  ⟨(zTb_in 1572 (by decide +kernel) (by decide +kernel)), (zTb_in 151 (by decide +kernel) (by decide +kernel)), (zTb_in 1573 (by decide +kernel) (by decide +kernel)), by decide +kernel, by decide +kernel⟩
theorem ls_M_155 : zLs "DebtDoorsModel" 155 y_M_isAmount 1 := Or.inl ⟨(zTb_in 1571 (by decide +kernel) (by decide +kernel)), m_M_isAmount⟩
def y_M_whyNot : zMt := (⟨"DebtDoorsModel", "whyNot", "(III)I"⟩, prog_14_method_25_code, 4, some .int)
theorem d_M_whyNot_0 : decode prog_14_method_25_code 0 = .ok (.iload_n 1, 1) := by decide +kernel
theorem d_M_whyNot_1 : decode prog_14_method_25_code 1 = .ok (.iload_n 2, 1) := by decide +kernel
theorem d_M_whyNot_2 : decode prog_14_method_25_code 2 = .ok (.if_icmp .eq 10, 3) := by decide +kernel
theorem d_M_whyNot_5 : decode prog_14_method_25_code 5 = .ok (.iload_n 3, 1) := by decide +kernel
theorem d_M_whyNot_6 : decode prog_14_method_25_code 6 = .ok (.invokestatic 155, 3) := by decide +kernel
theorem d_M_whyNot_9 : decode prog_14_method_25_code 9 = .ok (.ifCond .ne 5, 3) := by decide +kernel
theorem d_M_whyNot_12 : decode prog_14_method_25_code 12 = .ok (.iconst (-1), 1) := by decide +kernel
theorem d_M_whyNot_13 : decode prog_14_method_25_code 13 = .ok (.ireturn, 1) := by decide +kernel
theorem d_M_whyNot_14 : decode prog_14_method_25_code 14 = .ok (.aload_n 0, 1) := by decide +kernel
theorem d_M_whyNot_15 : decode prog_14_method_25_code 15 = .ok (.iload_n 1, 1) := by decide +kernel
theorem d_M_whyNot_16 : decode prog_14_method_25_code 16 = .ok (.invokevirtual 152, 3) := by decide +kernel
theorem d_M_whyNot_19 : decode prog_14_method_25_code 19 = .ok (.ifCond .eq 11, 3) := by decide +kernel
theorem d_M_whyNot_22 : decode prog_14_method_25_code 22 = .ok (.aload_n 0, 1) := by decide +kernel
theorem d_M_whyNot_23 : decode prog_14_method_25_code 23 = .ok (.iload_n 2, 1) := by decide +kernel
theorem d_M_whyNot_24 : decode prog_14_method_25_code 24 = .ok (.invokevirtual 152, 3) := by decide +kernel
theorem d_M_whyNot_27 : decode prog_14_method_25_code 27 = .ok (.ifCond .ne 8, 3) := by decide +kernel
theorem d_M_whyNot_30 : decode prog_14_method_25_code 30 = .ok (.bipush (-2), 2) := by decide +kernel
theorem d_M_whyNot_32 : decode prog_14_method_25_code 32 = .ok (.goto 18, 3) := by decide +kernel
theorem d_M_whyNot_35 : decode prog_14_method_25_code 35 = .ok (.aload_n 0, 1) := by decide +kernel
theorem d_M_whyNot_36 : decode prog_14_method_25_code 36 = .ok (.invokevirtual 137, 3) := by decide +kernel
theorem d_M_whyNot_39 : decode prog_14_method_25_code 39 = .ok (.bipush 16, 2) := by decide +kernel
theorem d_M_whyNot_41 : decode prog_14_method_25_code 41 = .ok (.if_icmp .ne 8, 3) := by decide +kernel
theorem d_M_whyNot_44 : decode prog_14_method_25_code 44 = .ok (.bipush (-5), 2) := by decide +kernel
theorem d_M_whyNot_46 : decode prog_14_method_25_code 46 = .ok (.goto 4, 3) := by decide +kernel
theorem d_M_whyNot_49 : decode prog_14_method_25_code 49 = .ok (.iconst 0, 1) := by decide +kernel
theorem d_M_whyNot_50 : decode prog_14_method_25_code 50 = .ok (.ireturn, 1) := by decide +kernel
def w_M_whyNot {d : Nat} (hd : 3 ≤ d) := (show SS ("DebtDoorsModel", prog_14_method_25_code, 4) (some .int) d 0 0 0 0 _ from (sS (p1 := 14) (sIf (pn := 14) (tt := 12) (xC (rOr (mm := 5) (rJ2 (tgt := 12) j_eq (rIn 1 d_M_whyNot_0 rfl) (rIn 2 d_M_whyNot_1 rfl) d_M_whyNot_2 (by decide)) (rNot (rJ1 (tgt := 14) k_ne (rS p_M_isAmount (Nat.le_trans (Nat.le_of_ble_eq_true rfl) hd) ls_M_155 (rAi rA0 (rIn 3 d_M_whyNot_5 rfl)) (by decide) d_M_whyNot_6) d_M_whyNot_9 (by decide))))) (sRi (xE (rI d_M_whyNot_12 rfl)) d_M_whyNot_13 rfl)) (sRi (xE (rT2 (rOr (mm := 22) (rNot (rNot (rJ1 (tgt := 30) k_eq (rV p_M_isPerson (Nat.le_trans (Nat.le_of_ble_eq_true rfl) hd) lv_M_152 (rAi (rAr rA0 (rAn 0 d_M_whyNot_14 rfl)) (rIn 1 d_M_whyNot_15 rfl)) (by decide) d_M_whyNot_16) d_M_whyNot_19 (by decide)))) (rNot (rJ1 (tgt := 35) k_ne (rV p_M_isPerson (Nat.le_trans (Nat.le_of_ble_eq_true rfl) hd) lv_M_152 (rAi (rAr rA0 (rAn 0 d_M_whyNot_22 rfl)) (rIn 2 d_M_whyNot_23 rfl)) (by decide) d_M_whyNot_24) d_M_whyNot_27 (by decide)))) (rGoE (p2 := 50) (rB d_M_whyNot_30 rfl) d_M_whyNot_32 (by decide)) (rT2 (rNot (rJ2 (tgt := 49) j_ne (rV p_M_debts (Nat.le_trans (Nat.le_of_ble_eq_true rfl) hd) lv_M_137 (rAr rA0 (rAn 0 d_M_whyNot_35 rfl)) (by decide) d_M_whyNot_36) (rB d_M_whyNot_39 rfl) d_M_whyNot_41 (by decide))) (rGoE (p2 := 50) (rB d_M_whyNot_44 rfl) d_M_whyNot_46 (by decide)) (rI d_M_whyNot_49 rfl)))) d_M_whyNot_50 rfl)))
noncomputable def f_M_whyNot : List zV → zMem → Int
  | [.inr (.inr (.inl q0)), .inl a, .inl b, .inl m], μ => if a = b ∨ ¬ (1 ≤ m ∧ m ≤ 9999) then -1 else if ¬ ((0 ≤ a ∧ a < μ 357 152) ∧ 0 ≤ b ∧ b < μ 357 152) then -2 else if μ 357 71 < 16 then 0 else -5
  | _, _ => 0
def g_M_whyNot : List zV → zMem → Prop
  | [.inr (.inr (.inl q0)), .inl a, .inl b, .inl m], μ => q0 = 355 ∧ ((0 ≤ μ 357 152 ∧ μ 357 152 ≤ 7) ∧ 0 ≤ μ 357 71 ∧ μ 357 71 ≤ 16)
  | _, _ => False
theorem p_M_whyNot : zPu y_M_whyNot 3 f_M_whyNot g_M_whyNot := by
  intro as μ h
  unfold g_M_whyNot at h
  split at h
  · next q0 a b m =>
    obtain ⟨rfl, h⟩ := h
    refine zSp.ss [vr 355, vi a, vi b, vi m] rfl (w_M_whyNot (Nat.le_refl _)) rfl rfl ?_
    (try simp only [zit_e, Bool.and_eq_true, Bool.or_eq_true, Bool.not_eq_true', Bool.and_eq_false_iff, Bool.or_eq_false_iff, Bool.not_eq_false', zbe, zdt, zdf, zb2_p, zbp_0, zbp_1, zbp_inj, zbp_01, Bool.true_eq_false, Bool.false_eq_true, true_and, and_true, Decidable.not_not, Classical.not_not, implies_true, List.nil_append, List.cons_append, List.append_assoc, Option.some.injEq, Sum.inl.injEq, zSw_c, zSw_n]); (try simp only [zit_e, Bool.and_eq_true, Bool.or_eq_true, Bool.not_eq_true', Bool.and_eq_false_iff, Bool.or_eq_false_iff, Bool.not_eq_false', zbe, zdt, zdf, zb2_p, zbp_0, zbp_1, zbp_inj, zbp_01, Bool.true_eq_false, Bool.false_eq_true, true_and, and_true, Decidable.not_not, Classical.not_not, implies_true, List.nil_append, List.cons_append, List.append_assoc, Option.some.injEq, Sum.inl.injEq, zSw_c, zSw_n, f_M_whyNot, f_M_isAmount, g_M_isAmount, f_M_isPerson, g_M_isPerson, f_M_debts, g_M_debts, zc_355]); (try simp only [zi_cs, zi_c0, zii_cs, zii_c0, zl_cs, zl_c0, zll_cs, zll_c0, zr_cs, zr_c0, zrr_cs, zrr_c0, zxs_cs, zxs_c0, zxx_cs, zxx_c0, zfree_c0, zfree_c1, zfree_cs, zfree_cz, zlong_i, zlong_r, zlong_x, zset_0, zset_s, true_and, and_true, Option.some.injEq, Sum.inl.injEq, Sum.inr.injEq, zb2_p, zbp_0, zbp_1, zbp_inj, zbp_01, Nat.zero_add, Nat.reduceAdd, implies_true, List.nil_append, List.cons_append, List.append_assoc, Int.not_lt, Int.not_le, Decidable.not_not, Int.zero_add, Int.reduceLE, Int.reduceLT, Int.reduceEq, Int.reduceNe, Int.reduceAdd, Int.reduceSub, Int.reduceMul, Int.reduceNeg, Int.reduceToNat, Nat.reduceMul, Nat.reduceLT, Nat.reduceEqDiff, and_self, ite_true, ite_false, zx1, zx2, zRecv, List.length_cons, List.length_nil, ne_eq, not_true_eq_false, not_false_eq_true, true_or, or_true, or_false, false_or, and_false, false_and, zf01, zf10, reduceCtorEq, zSw_c, zSw_n, zm_r, zit_T, zit_F, false_implies, true_implies, f_M_whyNot, f_M_isAmount, g_M_isAmount, f_M_isPerson, g_M_isPerson, f_M_debts, g_M_debts, zc_355])
    have h0 := h
    ((try simp only [zI_e]); (try unfold zit); (repeat' (first | done | omega | assumption | exact h.1 | apply And.intro | intro _ | split | rfl | assumption | (congr 1; omega))))
  · exact h.elim
theorem m_To_trait : Cond.instanceMethod y_To_trait.1 ∈ zTb ∧ Cond.selects y_To_trait.1.cls y_To_trait.1 y_To_trait.1 ∈ zTb ∧ Cond.initialized y_To_trait.1.cls ∈ zTb ∧ Cond.code y_To_trait.1 y_To_trait.2.1 y_To_trait.2.2.1 y_To_trait.2.2.2 ∈ zTb ∧ (y_To_trait.1.cls ≠ "java/lang/invoke/MethodHandle" ∧ y_To_trait.1.cls ≠ "java/lang/invoke/VarHandle" ∧ (parseMethodDescriptor y_To_trait.1.desc).map (fun d => d.parameters.length) = some 2) ∧ y_To_trait.2.2.1 ≤ 20 :=
  ⟨(zTb_in 626 (by decide +kernel) (by decide +kernel)), (zTb_in 627 (by decide +kernel) (by decide +kernel)), (zTb_in 140 (by decide +kernel) (by decide +kernel)), (zTb_in 628 (by decide +kernel) (by decide +kernel)), by decide +kernel, by decide +kernel⟩
theorem lv_D_141 : zLv "DebtDoors" 141 y_To_trait 2 9 := ⟨⟨(zTb_in 625 (by decide +kernel) (by decide +kernel)), m_To_trait.1, m_To_trait.2.1, m_To_trait.2.2⟩, _, rfl, rfl⟩
def y_D_of : zMt := (⟨"DebtDoors", "of", "(II)I"⟩, prog_1_method_5_code, 3, some .int)
theorem d_D_of_0 : decode prog_1_method_5_code 0 = .ok (.aload_n 0, 1) := by decide +kernel
theorem d_D_of_1 : decode prog_1_method_5_code 1 = .ok (.getfield 12, 3) := by decide +kernel
theorem d_D_of_4 : decode prog_1_method_5_code 4 = .ok (.iload_n 1, 1) := by decide +kernel
theorem d_D_of_5 : decode prog_1_method_5_code 5 = .ok (.invokevirtual 137, 3) := by decide +kernel
theorem d_D_of_8 : decode prog_1_method_5_code 8 = .ok (.ifCond .eq 15, 3) := by decide +kernel
theorem d_D_of_11 : decode prog_1_method_5_code 11 = .ok (.aload_n 0, 1) := by decide +kernel
theorem d_D_of_12 : decode prog_1_method_5_code 12 = .ok (.getfield 12, 3) := by decide +kernel
theorem d_D_of_15 : decode prog_1_method_5_code 15 = .ok (.iload_n 1, 1) := by decide +kernel
theorem d_D_of_16 : decode prog_1_method_5_code 16 = .ok (.iload_n 2, 1) := by decide +kernel
theorem d_D_of_17 : decode prog_1_method_5_code 17 = .ok (.invokevirtual 141, 3) := by decide +kernel
theorem d_D_of_20 : decode prog_1_method_5_code 20 = .ok (.goto 4, 3) := by decide +kernel
theorem d_D_of_23 : decode prog_1_method_5_code 23 = .ok (.iconst (-1), 1) := by decide +kernel
theorem d_D_of_24 : decode prog_1_method_5_code 24 = .ok (.ireturn, 1) := by decide +kernel
def w_D_of {d : Nat} (hd : 2 ≤ d) := (show SS ("DebtDoors", prog_1_method_5_code, 3) (some .int) d 0 0 0 0 _ from (sRi (xE (rT2 (rNot (rJ1 (tgt := 23) k_eq (rV p_To_has (Nat.le_trans (Nat.le_of_ble_eq_true rfl) hd) lv_D_137 (rAi (rAr rA0 (rFr fl_D_12 nk_11_0 (rAn 0 d_D_of_0 rfl) d_D_of_1)) (rIn 1 d_D_of_4 rfl)) (by decide) d_D_of_5) d_D_of_8 (by decide))) (rGoE (p2 := 24) (rV p_To_trait (Nat.le_trans (Nat.le_of_ble_eq_true rfl) hd) lv_D_141 (rAi (rAi (rAr rA0 (rFr fl_D_12 nk_11_0 (rAn 0 d_D_of_11 rfl) d_D_of_12)) (rIn 1 d_D_of_15 rfl)) (rIn 2 d_D_of_16 rfl)) (by decide) d_D_of_17) d_D_of_20 (by decide)) (rI d_D_of_23 rfl))) d_D_of_24 rfl))
noncomputable def f_D_of : List zV → zMem → Int
  | [.inr (.inr (.inl q0)), .inl p, .inl w], μ => if (0 ≤ p ∧ p < μ 1 6) then (if w = 0 then μ 3 p else if w = 1 then μ 8 p else if w = 2 then μ 9 p else -1) else -1
  | _, _ => 0
def g_D_of : List zV → zMem → Prop
  | [.inr (.inr (.inl q0)), .inl p, .inl w], μ => q0 = 0 ∧ (μ 1 6 ≤ 7)
  | _, _ => False
theorem p_D_of : zPu y_D_of 2 f_D_of g_D_of := by
  intro as μ h
  unfold g_D_of at h
  split at h
  · next q0 p w =>
    obtain ⟨rfl, h⟩ := h
    refine zSp.ss [vr 0, vi p, vi w] rfl (w_D_of (Nat.le_refl _)) rfl rfl ?_
    (try simp only [zit_e, Bool.and_eq_true, Bool.or_eq_true, Bool.not_eq_true', Bool.and_eq_false_iff, Bool.or_eq_false_iff, Bool.not_eq_false', zbe, zdt, zdf, zb2_p, zbp_0, zbp_1, zbp_inj, zbp_01, Bool.true_eq_false, Bool.false_eq_true, true_and, and_true, Decidable.not_not, Classical.not_not, implies_true, List.nil_append, List.cons_append, List.append_assoc, Option.some.injEq, Sum.inl.injEq, zSw_c, zSw_n]); (try simp only [zit_e, Bool.and_eq_true, Bool.or_eq_true, Bool.not_eq_true', Bool.and_eq_false_iff, Bool.or_eq_false_iff, Bool.not_eq_false', zbe, zdt, zdf, zb2_p, zbp_0, zbp_1, zbp_inj, zbp_01, Bool.true_eq_false, Bool.false_eq_true, true_and, and_true, Decidable.not_not, Classical.not_not, implies_true, List.nil_append, List.cons_append, List.append_assoc, Option.some.injEq, Sum.inl.injEq, zSw_c, zSw_n, f_D_of, f_To_has, g_To_has, f_To_trait, g_To_trait, zc_0, zc_1, zc_2]); (try simp only [zi_cs, zi_c0, zii_cs, zii_c0, zl_cs, zl_c0, zll_cs, zll_c0, zr_cs, zr_c0, zrr_cs, zrr_c0, zxs_cs, zxs_c0, zxx_cs, zxx_c0, zfree_c0, zfree_c1, zfree_cs, zfree_cz, zlong_i, zlong_r, zlong_x, zset_0, zset_s, true_and, and_true, Option.some.injEq, Sum.inl.injEq, Sum.inr.injEq, zb2_p, zbp_0, zbp_1, zbp_inj, zbp_01, Nat.zero_add, Nat.reduceAdd, implies_true, List.nil_append, List.cons_append, List.append_assoc, Int.not_lt, Int.not_le, Decidable.not_not, Int.zero_add, Int.reduceLE, Int.reduceLT, Int.reduceEq, Int.reduceNe, Int.reduceAdd, Int.reduceSub, Int.reduceMul, Int.reduceNeg, Int.reduceToNat, Nat.reduceMul, Nat.reduceLT, Nat.reduceEqDiff, and_self, ite_true, ite_false, zx1, zx2, zRecv, List.length_cons, List.length_nil, ne_eq, not_true_eq_false, not_false_eq_true, true_or, or_true, or_false, false_or, and_false, false_and, zf01, zf10, reduceCtorEq, zSw_c, zSw_n, zm_r, zit_T, zit_F, false_implies, true_implies, f_D_of, f_To_has, g_To_has, f_To_trait, g_To_trait, zc_0, zc_1, zc_2])
    have h0 := h
    ((try simp only [zI_e]); (try unfold zit); (repeat' (first | done | omega | assumption | exact h.1 | apply And.intro | intro _ | split | rfl | assumption | (congr 1; omega))))
  · exact h.elim
theorem m_To_hasPair : Cond.instanceMethod y_To_hasPair.1 ∈ zTb ∧ Cond.selects y_To_hasPair.1.cls y_To_hasPair.1 y_To_hasPair.1 ∈ zTb ∧ Cond.initialized y_To_hasPair.1.cls ∈ zTb ∧ Cond.code y_To_hasPair.1 y_To_hasPair.2.1 y_To_hasPair.2.2.1 y_To_hasPair.2.2.2 ∈ zTb ∧ (y_To_hasPair.1.cls ≠ "java/lang/invoke/MethodHandle" ∧ y_To_hasPair.1.cls ≠ "java/lang/invoke/VarHandle" ∧ (parseMethodDescriptor y_To_hasPair.1.desc).map (fun d => d.parameters.length) = some 2) ∧ y_To_hasPair.2.2.1 ≤ 20 :=
  ⟨(zTb_in 705 (by decide +kernel) (by decide +kernel)), (zTb_in 706 (by decide +kernel) (by decide +kernel)), (zTb_in 140 (by decide +kernel) (by decide +kernel)), (zTb_in 707 (by decide +kernel) (by decide +kernel)), by decide +kernel, by decide +kernel⟩
theorem lv_D_173 : zLv "DebtDoors" 173 y_To_hasPair 2 9 := ⟨⟨(zTb_in 704 (by decide +kernel) (by decide +kernel)), m_To_hasPair.1, m_To_hasPair.2.1, m_To_hasPair.2.2⟩, _, rfl, rfl⟩
theorem m_Le_owed : Cond.instanceMethod y_Le_owed.1 ∈ zTb ∧ Cond.selects y_Le_owed.1.cls y_Le_owed.1 y_Le_owed.1 ∈ zTb ∧ Cond.initialized y_Le_owed.1.cls ∈ zTb ∧ Cond.code y_Le_owed.1 y_Le_owed.2.1 y_Le_owed.2.2.1 y_Le_owed.2.2.2 ∈ zTb ∧ (y_Le_owed.1.cls ≠ "java/lang/invoke/MethodHandle" ∧ y_Le_owed.1.cls ≠ "java/lang/invoke/VarHandle" ∧ (parseMethodDescriptor y_Le_owed.1.desc).map (fun d => d.parameters.length) = some 2) ∧ y_Le_owed.2.2.1 ≤ 20 :=
  ⟨(zTb_in 658 (by decide +kernel) (by decide +kernel)), (zTb_in 659 (by decide +kernel) (by decide +kernel)), (zTb_in 141 (by decide +kernel) (by decide +kernel)), (zTb_in 660 (by decide +kernel) (by decide +kernel)), by decide +kernel, by decide +kernel⟩
theorem lv_D_176 : zLv "DebtDoors" 176 y_Le_owed 2 1 := ⟨⟨(zTb_in 709 (by decide +kernel) (by decide +kernel)), m_Le_owed.1, m_Le_owed.2.1, m_Le_owed.2.2⟩, _, rfl, rfl⟩
def y_D_owes : zMt := (⟨"DebtDoors", "owes", "(II)I"⟩, prog_1_method_9_code, 3, some .int)
theorem d_D_owes_0 : decode prog_1_method_9_code 0 = .ok (.aload_n 0, 1) := by decide +kernel
theorem d_D_owes_1 : decode prog_1_method_9_code 1 = .ok (.getfield 12, 3) := by decide +kernel
theorem d_D_owes_4 : decode prog_1_method_9_code 4 = .ok (.iload_n 1, 1) := by decide +kernel
theorem d_D_owes_5 : decode prog_1_method_9_code 5 = .ok (.iload_n 2, 1) := by decide +kernel
theorem d_D_owes_6 : decode prog_1_method_9_code 6 = .ok (.invokevirtual 173, 3) := by decide +kernel
theorem d_D_owes_9 : decode prog_1_method_9_code 9 = .ok (.ifCond .eq 18, 3) := by decide +kernel
theorem d_D_owes_12 : decode prog_1_method_9_code 12 = .ok (.aload_n 0, 1) := by decide +kernel
theorem d_D_owes_13 : decode prog_1_method_9_code 13 = .ok (.getfield 12, 3) := by decide +kernel
theorem d_D_owes_16 : decode prog_1_method_9_code 16 = .ok (.getfield 115, 3) := by decide +kernel
theorem d_D_owes_19 : decode prog_1_method_9_code 19 = .ok (.iload_n 1, 1) := by decide +kernel
theorem d_D_owes_20 : decode prog_1_method_9_code 20 = .ok (.iload_n 2, 1) := by decide +kernel
theorem d_D_owes_21 : decode prog_1_method_9_code 21 = .ok (.invokevirtual 176, 3) := by decide +kernel
theorem d_D_owes_24 : decode prog_1_method_9_code 24 = .ok (.goto 4, 3) := by decide +kernel
theorem d_D_owes_27 : decode prog_1_method_9_code 27 = .ok (.iconst (-1), 1) := by decide +kernel
theorem d_D_owes_28 : decode prog_1_method_9_code 28 = .ok (.ireturn, 1) := by decide +kernel
def w_D_owes {d : Nat} (hd : 3 ≤ d) := (show SS ("DebtDoors", prog_1_method_9_code, 3) (some .int) d 0 0 0 0 _ from (sRi (xE (rT2 (rNot (rJ1 (tgt := 27) k_eq (rV p_To_hasPair (Nat.le_trans (Nat.le_of_ble_eq_true rfl) hd) lv_D_173 (rAi (rAi (rAr rA0 (rFr fl_D_12 nk_11_0 (rAn 0 d_D_owes_0 rfl) d_D_owes_1)) (rIn 1 d_D_owes_4 rfl)) (rIn 2 d_D_owes_5 rfl)) (by decide) d_D_owes_6) d_D_owes_9 (by decide))) (rGoE (p2 := 28) (rV p_Le_owed (Nat.le_trans (Nat.le_of_ble_eq_true rfl) hd) lv_D_176 (rAi (rAi (rAr rA0 (rFr fl_D_115 nk_9_0 (rFr fl_D_12 nk_11_0 (rAn 0 d_D_owes_12 rfl) d_D_owes_13) d_D_owes_16)) (rIn 1 d_D_owes_19 rfl)) (rIn 2 d_D_owes_20 rfl)) (by decide) d_D_owes_21) d_D_owes_24 (by decide)) (rI d_D_owes_27 rfl))) d_D_owes_28 rfl))
noncomputable def f_D_owes : List zV → zMem → Int
  | [.inr (.inr (.inl q0)), .inl a, .inl b], μ => if a ≠ b ∧ (0 ≤ a ∧ a < μ 1 6) ∧ 0 ≤ b ∧ b < μ 1 6 then owL a b (dbD μ) else -1
  | _, _ => 0
def g_D_owes : List zV → zMem → Prop
  | [.inr (.inr (.inl q0)), .inl a, .inl b], μ => q0 = 0 ∧ (okT (μ 2 5) (fD μ))
  | _, _ => False
theorem p_D_owes : zPu y_D_owes 3 f_D_owes g_D_owes := by
  intro as μ h
  unfold g_D_owes at h
  split at h
  · next q0 a b =>
    obtain ⟨rfl, h⟩ := h
    refine zSp.ss [vr 0, vi a, vi b] rfl (w_D_owes (Nat.le_refl _)) rfl rfl ?_
    (try simp only [zit_e, Bool.and_eq_true, Bool.or_eq_true, Bool.not_eq_true', Bool.and_eq_false_iff, Bool.or_eq_false_iff, Bool.not_eq_false', zbe, zdt, zdf, zb2_p, zbp_0, zbp_1, zbp_inj, zbp_01, Bool.true_eq_false, Bool.false_eq_true, true_and, and_true, Decidable.not_not, Classical.not_not, implies_true, List.nil_append, List.cons_append, List.append_assoc, Option.some.injEq, Sum.inl.injEq, zSw_c, zSw_n]); (try simp only [zit_e, Bool.and_eq_true, Bool.or_eq_true, Bool.not_eq_true', Bool.and_eq_false_iff, Bool.or_eq_false_iff, Bool.not_eq_false', zbe, zdt, zdf, zb2_p, zbp_0, zbp_1, zbp_inj, zbp_01, Bool.true_eq_false, Bool.false_eq_true, true_and, and_true, Decidable.not_not, Classical.not_not, implies_true, List.nil_append, List.cons_append, List.append_assoc, Option.some.injEq, Sum.inl.injEq, zSw_c, zSw_n, f_D_owes, f_To_hasPair, g_To_hasPair, f_Le_owed, g_Le_owed, zc_0, zc_1, zc_2]); (try simp only [zi_cs, zi_c0, zii_cs, zii_c0, zl_cs, zl_c0, zll_cs, zll_c0, zr_cs, zr_c0, zrr_cs, zrr_c0, zxs_cs, zxs_c0, zxx_cs, zxx_c0, zfree_c0, zfree_c1, zfree_cs, zfree_cz, zlong_i, zlong_r, zlong_x, zset_0, zset_s, true_and, and_true, Option.some.injEq, Sum.inl.injEq, Sum.inr.injEq, zb2_p, zbp_0, zbp_1, zbp_inj, zbp_01, Nat.zero_add, Nat.reduceAdd, implies_true, List.nil_append, List.cons_append, List.append_assoc, Int.not_lt, Int.not_le, Decidable.not_not, Int.zero_add, Int.reduceLE, Int.reduceLT, Int.reduceEq, Int.reduceNe, Int.reduceAdd, Int.reduceSub, Int.reduceMul, Int.reduceNeg, Int.reduceToNat, Nat.reduceMul, Nat.reduceLT, Nat.reduceEqDiff, and_self, ite_true, ite_false, zx1, zx2, zRecv, List.length_cons, List.length_nil, ne_eq, not_true_eq_false, not_false_eq_true, true_or, or_true, or_false, false_or, and_false, false_and, zf01, zf10, reduceCtorEq, zSw_c, zSw_n, zm_r, zit_T, zit_F, false_implies, true_implies, f_D_owes, f_To_hasPair, g_To_hasPair, f_Le_owed, g_Le_owed, zc_0, zc_1, zc_2])
    have h0 := h
    ((try simp only [zI_e]); (try unfold zit); (repeat' (first | done | omega | assumption | exact h.1 | apply And.intro | intro _ | split | rfl | assumption | (congr 1; omega))))
  · exact h.elim
theorem m_M_owed : Cond.instanceMethod y_M_owed.1 ∈ zTb ∧ Cond.selects y_M_owed.1.cls y_M_owed.1 y_M_owed.1 ∈ zTb ∧ Cond.initialized y_M_owed.1.cls ∈ zTb ∧ Cond.code y_M_owed.1 y_M_owed.2.1 y_M_owed.2.2.1 y_M_owed.2.2.2 ∈ zTb ∧ (y_M_owed.1.cls ≠ "java/lang/invoke/MethodHandle" ∧ y_M_owed.1.cls ≠ "java/lang/invoke/VarHandle" ∧ (parseMethodDescriptor y_M_owed.1.desc).map (fun d => d.parameters.length) = some 2) ∧ y_M_owed.2.2.1 ≤ 20 :=
  ⟨(zTb_in 1600 (by decide +kernel) (by decide +kernel)), (List.mem_filter.mpr ⟨List.mem_append_left _ (by decide +kernel), by decide +kernel⟩), (zTb_in 151 (by decide +kernel) (by decide +kernel)), (zTb_in 1601 (by decide +kernel) (by decide +kernel)), by decide +kernel, by decide +kernel⟩
theorem lv_M_178 : zLv "DebtDoorsModel" 178 y_M_owed 2 12 := ⟨⟨(zTb_in 1598 (by decide +kernel) (by decide +kernel)), m_M_owed.1, m_M_owed.2.1, m_M_owed.2.2⟩, _, rfl, rfl⟩
def y_M_owes : zMt := (⟨"DebtDoorsModel", "owes", "(II)I"⟩, prog_14_method_31_code, 3, some .int)
theorem d_M_owes_0 : decode prog_14_method_31_code 0 = .ok (.aload_n 0, 1) := by decide +kernel
theorem d_M_owes_1 : decode prog_14_method_31_code 1 = .ok (.iload_n 1, 1) := by decide +kernel
theorem d_M_owes_2 : decode prog_14_method_31_code 2 = .ok (.invokevirtual 152, 3) := by decide +kernel
theorem d_M_owes_5 : decode prog_14_method_31_code 5 = .ok (.ifCond .eq 25, 3) := by decide +kernel
theorem d_M_owes_8 : decode prog_14_method_31_code 8 = .ok (.aload_n 0, 1) := by decide +kernel
theorem d_M_owes_9 : decode prog_14_method_31_code 9 = .ok (.iload_n 2, 1) := by decide +kernel
theorem d_M_owes_10 : decode prog_14_method_31_code 10 = .ok (.invokevirtual 152, 3) := by decide +kernel
theorem d_M_owes_13 : decode prog_14_method_31_code 13 = .ok (.ifCond .eq 17, 3) := by decide +kernel
theorem d_M_owes_16 : decode prog_14_method_31_code 16 = .ok (.iload_n 1, 1) := by decide +kernel
theorem d_M_owes_17 : decode prog_14_method_31_code 17 = .ok (.iload_n 2, 1) := by decide +kernel
theorem d_M_owes_18 : decode prog_14_method_31_code 18 = .ok (.if_icmp .eq 12, 3) := by decide +kernel
theorem d_M_owes_21 : decode prog_14_method_31_code 21 = .ok (.aload_n 0, 1) := by decide +kernel
theorem d_M_owes_22 : decode prog_14_method_31_code 22 = .ok (.iload_n 1, 1) := by decide +kernel
theorem d_M_owes_23 : decode prog_14_method_31_code 23 = .ok (.iload_n 2, 1) := by decide +kernel
theorem d_M_owes_24 : decode prog_14_method_31_code 24 = .ok (.invokevirtual 178, 3) := by decide +kernel
theorem d_M_owes_27 : decode prog_14_method_31_code 27 = .ok (.goto 4, 3) := by decide +kernel
theorem d_M_owes_30 : decode prog_14_method_31_code 30 = .ok (.iconst (-1), 1) := by decide +kernel
theorem d_M_owes_31 : decode prog_14_method_31_code 31 = .ok (.ireturn, 1) := by decide +kernel
def w_M_owes {d : Nat} (hd : 3 ≤ d) := (show SS ("DebtDoorsModel", prog_14_method_31_code, 3) (some .int) d 0 0 0 0 _ from (sRi (xE (rT2 (rAnd (mm := 16) (rAnd (mm := 8) (rNot (rJ1 (tgt := 30) k_eq (rV p_M_isPerson (Nat.le_trans (Nat.le_of_ble_eq_true rfl) hd) lv_M_152 (rAi (rAr rA0 (rAn 0 d_M_owes_0 rfl)) (rIn 1 d_M_owes_1 rfl)) (by decide) d_M_owes_2) d_M_owes_5 (by decide))) (rNot (rJ1 (tgt := 30) k_eq (rV p_M_isPerson (Nat.le_trans (Nat.le_of_ble_eq_true rfl) hd) lv_M_152 (rAi (rAr rA0 (rAn 0 d_M_owes_8 rfl)) (rIn 2 d_M_owes_9 rfl)) (by decide) d_M_owes_10) d_M_owes_13 (by decide)))) (rNot (rJ2 (tgt := 30) j_eq (rIn 1 d_M_owes_16 rfl) (rIn 2 d_M_owes_17 rfl) d_M_owes_18 (by decide)))) (rGoE (p2 := 31) (rV p_M_owed (Nat.le_trans (Nat.le_of_ble_eq_true rfl) hd) lv_M_178 (rAi (rAi (rAr rA0 (rAn 0 d_M_owes_21 rfl)) (rIn 1 d_M_owes_22 rfl)) (rIn 2 d_M_owes_23 rfl)) (by decide) d_M_owes_24) d_M_owes_27 (by decide)) (rI d_M_owes_30 rfl))) d_M_owes_31 rfl))
noncomputable def f_M_owes : List zV → zMem → Int
  | [.inr (.inr (.inl q0)), .inl a, .inl b], μ => if a ≠ b ∧ (0 ≤ a ∧ a < μ 357 152) ∧ 0 ≤ b ∧ b < μ 357 152 then owL a b (dbM μ) else -1
  | _, _ => 0
def g_M_owes : List zV → zMem → Prop
  | [.inr (.inr (.inl q0)), .inl a, .inl b], μ => q0 = 355 ∧ (okT (μ 357 71) (fM μ) ∧ 0 ≤ μ 357 152 ∧ μ 357 152 ≤ 7)
  | _, _ => False
theorem p_M_owes : zPu y_M_owes 3 f_M_owes g_M_owes := by
  intro as μ h
  unfold g_M_owes at h
  split at h
  · next q0 a b =>
    obtain ⟨rfl, h⟩ := h
    refine zSp.ss [vr 355, vi a, vi b] rfl (w_M_owes (Nat.le_refl _)) rfl rfl ?_
    (try simp only [zit_e, Bool.and_eq_true, Bool.or_eq_true, Bool.not_eq_true', Bool.and_eq_false_iff, Bool.or_eq_false_iff, Bool.not_eq_false', zbe, zdt, zdf, zb2_p, zbp_0, zbp_1, zbp_inj, zbp_01, Bool.true_eq_false, Bool.false_eq_true, true_and, and_true, Decidable.not_not, Classical.not_not, implies_true, List.nil_append, List.cons_append, List.append_assoc, Option.some.injEq, Sum.inl.injEq, zSw_c, zSw_n]); (try simp only [zit_e, Bool.and_eq_true, Bool.or_eq_true, Bool.not_eq_true', Bool.and_eq_false_iff, Bool.or_eq_false_iff, Bool.not_eq_false', zbe, zdt, zdf, zb2_p, zbp_0, zbp_1, zbp_inj, zbp_01, Bool.true_eq_false, Bool.false_eq_true, true_and, and_true, Decidable.not_not, Classical.not_not, implies_true, List.nil_append, List.cons_append, List.append_assoc, Option.some.injEq, Sum.inl.injEq, zSw_c, zSw_n, f_M_owes, f_M_isPerson, g_M_isPerson, f_M_owed, g_M_owed, zc_355]); (try simp only [zi_cs, zi_c0, zii_cs, zii_c0, zl_cs, zl_c0, zll_cs, zll_c0, zr_cs, zr_c0, zrr_cs, zrr_c0, zxs_cs, zxs_c0, zxx_cs, zxx_c0, zfree_c0, zfree_c1, zfree_cs, zfree_cz, zlong_i, zlong_r, zlong_x, zset_0, zset_s, true_and, and_true, Option.some.injEq, Sum.inl.injEq, Sum.inr.injEq, zb2_p, zbp_0, zbp_1, zbp_inj, zbp_01, Nat.zero_add, Nat.reduceAdd, implies_true, List.nil_append, List.cons_append, List.append_assoc, Int.not_lt, Int.not_le, Decidable.not_not, Int.zero_add, Int.reduceLE, Int.reduceLT, Int.reduceEq, Int.reduceNe, Int.reduceAdd, Int.reduceSub, Int.reduceMul, Int.reduceNeg, Int.reduceToNat, Nat.reduceMul, Nat.reduceLT, Nat.reduceEqDiff, and_self, ite_true, ite_false, zx1, zx2, zRecv, List.length_cons, List.length_nil, ne_eq, not_true_eq_false, not_false_eq_true, true_or, or_true, or_false, false_or, and_false, false_and, zf01, zf10, reduceCtorEq, zSw_c, zSw_n, zm_r, zit_T, zit_F, false_implies, true_implies, f_M_owes, f_M_isPerson, g_M_isPerson, f_M_owed, g_M_owed, zc_355])
    have h0 := h
    ((try simp only [zI_e]); (try unfold zit); (repeat' (first | done | omega | assumption | exact h.1 | apply And.intro | intro _ | split | rfl | assumption | (congr 1; omega))))
  · exact h.elim
theorem m_Le_balanceOf : Cond.instanceMethod y_Le_balanceOf.1 ∈ zTb ∧ Cond.selects y_Le_balanceOf.1.cls y_Le_balanceOf.1 y_Le_balanceOf.1 ∈ zTb ∧ Cond.initialized y_Le_balanceOf.1.cls ∈ zTb ∧ Cond.code y_Le_balanceOf.1 y_Le_balanceOf.2.1 y_Le_balanceOf.2.2.1 y_Le_balanceOf.2.2.2 ∈ zTb ∧ (y_Le_balanceOf.1.cls ≠ "java/lang/invoke/MethodHandle" ∧ y_Le_balanceOf.1.cls ≠ "java/lang/invoke/VarHandle" ∧ (parseMethodDescriptor y_Le_balanceOf.1.desc).map (fun d => d.parameters.length) = some 1) ∧ y_Le_balanceOf.2.2.1 ≤ 20 :=
  ⟨(zTb_in 1230 (by decide +kernel) (by decide +kernel)), (zTb_in 1231 (by decide +kernel) (by decide +kernel)), (zTb_in 141 (by decide +kernel) (by decide +kernel)), (zTb_in 1232 (by decide +kernel) (by decide +kernel)), by decide +kernel, by decide +kernel⟩
theorem lv_D_391 : zLv "DebtDoors" 391 y_Le_balanceOf 1 1 := ⟨⟨(zTb_in 1229 (by decide +kernel) (by decide +kernel)), m_Le_balanceOf.1, m_Le_balanceOf.2.1, m_Le_balanceOf.2.2⟩, _, rfl, rfl⟩
theorem kc_D_394 : Cond.constant "DebtDoors" 394 (Int32.ofInt (-1000000)) ∈ zTb := (zTb_in 1233 (by decide +kernel) (by decide +kernel))
def y_D_balance : zMt := (⟨"DebtDoors", "balance", "(I)I"⟩, prog_1_method_54_code, 2, some .int)
theorem d_D_balance_0 : decode prog_1_method_54_code 0 = .ok (.aload_n 0, 1) := by decide +kernel
theorem d_D_balance_1 : decode prog_1_method_54_code 1 = .ok (.getfield 12, 3) := by decide +kernel
theorem d_D_balance_4 : decode prog_1_method_54_code 4 = .ok (.iload_n 1, 1) := by decide +kernel
theorem d_D_balance_5 : decode prog_1_method_54_code 5 = .ok (.invokevirtual 137, 3) := by decide +kernel
theorem d_D_balance_8 : decode prog_1_method_54_code 8 = .ok (.ifCond .eq 17, 3) := by decide +kernel
theorem d_D_balance_11 : decode prog_1_method_54_code 11 = .ok (.aload_n 0, 1) := by decide +kernel
theorem d_D_balance_12 : decode prog_1_method_54_code 12 = .ok (.getfield 12, 3) := by decide +kernel
theorem d_D_balance_15 : decode prog_1_method_54_code 15 = .ok (.getfield 115, 3) := by decide +kernel
theorem d_D_balance_18 : decode prog_1_method_54_code 18 = .ok (.iload_n 1, 1) := by decide +kernel
theorem d_D_balance_19 : decode prog_1_method_54_code 19 = .ok (.invokevirtual 391, 3) := by decide +kernel
theorem d_D_balance_22 : decode prog_1_method_54_code 22 = .ok (.goto 6, 3) := by decide +kernel
theorem d_D_balance_25 : decode prog_1_method_54_code 25 = .ok (.ldc_w 394, 3) := by decide +kernel
theorem d_D_balance_28 : decode prog_1_method_54_code 28 = .ok (.ireturn, 1) := by decide +kernel
def w_D_balance {d : Nat} (hd : 2 ≤ d) := (show SS ("DebtDoors", prog_1_method_54_code, 2) (some .int) d 0 0 0 0 _ from (sRi (xE (rT2 (rNot (rJ1 (tgt := 25) k_eq (rV p_To_has (Nat.le_trans (Nat.le_of_ble_eq_true rfl) hd) lv_D_137 (rAi (rAr rA0 (rFr fl_D_12 nk_11_0 (rAn 0 d_D_balance_0 rfl) d_D_balance_1)) (rIn 1 d_D_balance_4 rfl)) (by decide) d_D_balance_5) d_D_balance_8 (by decide))) (rGoE (p2 := 28) (rV p_Le_balanceOf (Nat.le_trans (Nat.le_of_ble_eq_true rfl) hd) lv_D_391 (rAi (rAr rA0 (rFr fl_D_115 nk_9_0 (rFr fl_D_12 nk_11_0 (rAn 0 d_D_balance_11 rfl) d_D_balance_12) d_D_balance_15)) (rIn 1 d_D_balance_18 rfl)) (by decide) d_D_balance_19) d_D_balance_22 (by decide)) (rLw kc_D_394 d_D_balance_25 rfl))) d_D_balance_28 rfl))
noncomputable def f_D_balance : List zV → zMem → Int
  | [.inr (.inr (.inl q0)), .inl a], μ => if 0 ≤ a ∧ a < μ 1 6 then blL a (dbD μ) else -1000000
  | _, _ => 0
def g_D_balance : List zV → zMem → Prop
  | [.inr (.inr (.inl q0)), .inl a], μ => q0 = 0 ∧ (okT (μ 2 5) (fD μ))
  | _, _ => False
theorem p_D_balance : zPu y_D_balance 2 f_D_balance g_D_balance := by
  intro as μ h
  unfold g_D_balance at h
  split at h
  · next q0 a =>
    obtain ⟨rfl, h⟩ := h
    refine zSp.ss [vr 0, vi a] rfl (w_D_balance (Nat.le_refl _)) rfl rfl ?_
    (try simp only [zit_e, Bool.and_eq_true, Bool.or_eq_true, Bool.not_eq_true', Bool.and_eq_false_iff, Bool.or_eq_false_iff, Bool.not_eq_false', zbe, zdt, zdf, zb2_p, zbp_0, zbp_1, zbp_inj, zbp_01, Bool.true_eq_false, Bool.false_eq_true, true_and, and_true, Decidable.not_not, Classical.not_not, implies_true, List.nil_append, List.cons_append, List.append_assoc, Option.some.injEq, Sum.inl.injEq, zSw_c, zSw_n]); (try simp only [zit_e, Bool.and_eq_true, Bool.or_eq_true, Bool.not_eq_true', Bool.and_eq_false_iff, Bool.or_eq_false_iff, Bool.not_eq_false', zbe, zdt, zdf, zb2_p, zbp_0, zbp_1, zbp_inj, zbp_01, Bool.true_eq_false, Bool.false_eq_true, true_and, and_true, Decidable.not_not, Classical.not_not, implies_true, List.nil_append, List.cons_append, List.append_assoc, Option.some.injEq, Sum.inl.injEq, zSw_c, zSw_n, f_D_balance, f_To_has, g_To_has, f_Le_balanceOf, g_Le_balanceOf, zc_0, zc_1, zc_2]); (try simp only [zi_cs, zi_c0, zii_cs, zii_c0, zl_cs, zl_c0, zll_cs, zll_c0, zr_cs, zr_c0, zrr_cs, zrr_c0, zxs_cs, zxs_c0, zxx_cs, zxx_c0, zfree_c0, zfree_c1, zfree_cs, zfree_cz, zlong_i, zlong_r, zlong_x, zset_0, zset_s, true_and, and_true, Option.some.injEq, Sum.inl.injEq, Sum.inr.injEq, zb2_p, zbp_0, zbp_1, zbp_inj, zbp_01, Nat.zero_add, Nat.reduceAdd, implies_true, List.nil_append, List.cons_append, List.append_assoc, Int.not_lt, Int.not_le, Decidable.not_not, Int.zero_add, Int.reduceLE, Int.reduceLT, Int.reduceEq, Int.reduceNe, Int.reduceAdd, Int.reduceSub, Int.reduceMul, Int.reduceNeg, Int.reduceToNat, Nat.reduceMul, Nat.reduceLT, Nat.reduceEqDiff, and_self, ite_true, ite_false, zx1, zx2, zRecv, List.length_cons, List.length_nil, ne_eq, not_true_eq_false, not_false_eq_true, true_or, or_true, or_false, false_or, and_false, false_and, zf01, zf10, reduceCtorEq, zSw_c, zSw_n, zm_r, zit_T, zit_F, false_implies, true_implies, f_D_balance, f_To_has, g_To_has, f_Le_balanceOf, g_Le_balanceOf, zc_0, zc_1, zc_2])
    have h0 := h
    ((try simp only [zI_e]); (try unfold zit); (repeat' (first | done | omega | assumption | exact h.1 | apply And.intro | intro _ | split | rfl | assumption | (congr 1; omega))))
  · exact h.elim
theorem m_M_balanceOf : Cond.instanceMethod y_M_balanceOf.1 ∈ zTb ∧ Cond.selects y_M_balanceOf.1.cls y_M_balanceOf.1 y_M_balanceOf.1 ∈ zTb ∧ Cond.initialized y_M_balanceOf.1.cls ∈ zTb ∧ Cond.code y_M_balanceOf.1 y_M_balanceOf.2.1 y_M_balanceOf.2.2.1 y_M_balanceOf.2.2.2 ∈ zTb ∧ (y_M_balanceOf.1.cls ≠ "java/lang/invoke/MethodHandle" ∧ y_M_balanceOf.1.cls ≠ "java/lang/invoke/VarHandle" ∧ (parseMethodDescriptor y_M_balanceOf.1.desc).map (fun d => d.parameters.length) = some 1) ∧ y_M_balanceOf.2.2.1 ≤ 20 :=
  ⟨(zTb_in 2011 (by decide +kernel) (by decide +kernel)), (List.mem_filter.mpr ⟨List.mem_append_left _ (by decide +kernel), by decide +kernel⟩), (zTb_in 151 (by decide +kernel) (by decide +kernel)), (zTb_in 2012 (by decide +kernel) (by decide +kernel)), by decide +kernel, by decide +kernel⟩
theorem lv_M_464 : zLv "DebtDoorsModel" 464 y_M_balanceOf 1 12 := ⟨⟨(zTb_in 2009 (by decide +kernel) (by decide +kernel)), m_M_balanceOf.1, m_M_balanceOf.2.1, m_M_balanceOf.2.2⟩, _, rfl, rfl⟩
theorem kc_M_467 : Cond.constant "DebtDoorsModel" 467 (Int32.ofInt (-1000000)) ∈ zTb := (zTb_in 2013 (by decide +kernel) (by decide +kernel))
def y_M_balance : zMt := (⟨"DebtDoorsModel", "balance", "(I)I"⟩, prog_14_method_128_code, 2, some .int)
theorem d_M_balance_0 : decode prog_14_method_128_code 0 = .ok (.aload_n 0, 1) := by decide +kernel
theorem d_M_balance_1 : decode prog_14_method_128_code 1 = .ok (.iload_n 1, 1) := by decide +kernel
theorem d_M_balance_2 : decode prog_14_method_128_code 2 = .ok (.invokevirtual 152, 3) := by decide +kernel
theorem d_M_balance_5 : decode prog_14_method_128_code 5 = .ok (.ifCond .eq 11, 3) := by decide +kernel
theorem d_M_balance_8 : decode prog_14_method_128_code 8 = .ok (.aload_n 0, 1) := by decide +kernel
theorem d_M_balance_9 : decode prog_14_method_128_code 9 = .ok (.iload_n 1, 1) := by decide +kernel
theorem d_M_balance_10 : decode prog_14_method_128_code 10 = .ok (.invokevirtual 464, 3) := by decide +kernel
theorem d_M_balance_13 : decode prog_14_method_128_code 13 = .ok (.goto 6, 3) := by decide +kernel
theorem d_M_balance_16 : decode prog_14_method_128_code 16 = .ok (.ldc_w 467, 3) := by decide +kernel
theorem d_M_balance_19 : decode prog_14_method_128_code 19 = .ok (.ireturn, 1) := by decide +kernel
def w_M_balance {d : Nat} (hd : 3 ≤ d) := (show SS ("DebtDoorsModel", prog_14_method_128_code, 2) (some .int) d 0 0 0 0 _ from (sRi (xE (rT2 (rNot (rJ1 (tgt := 16) k_eq (rV p_M_isPerson (Nat.le_trans (Nat.le_of_ble_eq_true rfl) hd) lv_M_152 (rAi (rAr rA0 (rAn 0 d_M_balance_0 rfl)) (rIn 1 d_M_balance_1 rfl)) (by decide) d_M_balance_2) d_M_balance_5 (by decide))) (rGoE (p2 := 19) (rV p_M_balanceOf (Nat.le_trans (Nat.le_of_ble_eq_true rfl) hd) lv_M_464 (rAi (rAr rA0 (rAn 0 d_M_balance_8 rfl)) (rIn 1 d_M_balance_9 rfl)) (by decide) d_M_balance_10) d_M_balance_13 (by decide)) (rLw kc_M_467 d_M_balance_16 rfl))) d_M_balance_19 rfl))
noncomputable def f_M_balance : List zV → zMem → Int
  | [.inr (.inr (.inl q0)), .inl a], μ => if 0 ≤ a ∧ a < μ 357 152 then blL a (dbM μ) else -1000000
  | _, _ => 0
def g_M_balance : List zV → zMem → Prop
  | [.inr (.inr (.inl q0)), .inl a], μ => q0 = 355 ∧ (okT (μ 357 71) (fM μ) ∧ 0 ≤ μ 357 152 ∧ μ 357 152 ≤ 7)
  | _, _ => False
theorem p_M_balance : zPu y_M_balance 3 f_M_balance g_M_balance := by
  intro as μ h
  unfold g_M_balance at h
  split at h
  · next q0 a =>
    obtain ⟨rfl, h⟩ := h
    refine zSp.ss [vr 355, vi a] rfl (w_M_balance (Nat.le_refl _)) rfl rfl ?_
    (try simp only [zit_e, Bool.and_eq_true, Bool.or_eq_true, Bool.not_eq_true', Bool.and_eq_false_iff, Bool.or_eq_false_iff, Bool.not_eq_false', zbe, zdt, zdf, zb2_p, zbp_0, zbp_1, zbp_inj, zbp_01, Bool.true_eq_false, Bool.false_eq_true, true_and, and_true, Decidable.not_not, Classical.not_not, implies_true, List.nil_append, List.cons_append, List.append_assoc, Option.some.injEq, Sum.inl.injEq, zSw_c, zSw_n]); (try simp only [zit_e, Bool.and_eq_true, Bool.or_eq_true, Bool.not_eq_true', Bool.and_eq_false_iff, Bool.or_eq_false_iff, Bool.not_eq_false', zbe, zdt, zdf, zb2_p, zbp_0, zbp_1, zbp_inj, zbp_01, Bool.true_eq_false, Bool.false_eq_true, true_and, and_true, Decidable.not_not, Classical.not_not, implies_true, List.nil_append, List.cons_append, List.append_assoc, Option.some.injEq, Sum.inl.injEq, zSw_c, zSw_n, f_M_balance, f_M_isPerson, g_M_isPerson, f_M_balanceOf, g_M_balanceOf, zc_355]); (try simp only [zi_cs, zi_c0, zii_cs, zii_c0, zl_cs, zl_c0, zll_cs, zll_c0, zr_cs, zr_c0, zrr_cs, zrr_c0, zxs_cs, zxs_c0, zxx_cs, zxx_c0, zfree_c0, zfree_c1, zfree_cs, zfree_cz, zlong_i, zlong_r, zlong_x, zset_0, zset_s, true_and, and_true, Option.some.injEq, Sum.inl.injEq, Sum.inr.injEq, zb2_p, zbp_0, zbp_1, zbp_inj, zbp_01, Nat.zero_add, Nat.reduceAdd, implies_true, List.nil_append, List.cons_append, List.append_assoc, Int.not_lt, Int.not_le, Decidable.not_not, Int.zero_add, Int.reduceLE, Int.reduceLT, Int.reduceEq, Int.reduceNe, Int.reduceAdd, Int.reduceSub, Int.reduceMul, Int.reduceNeg, Int.reduceToNat, Nat.reduceMul, Nat.reduceLT, Nat.reduceEqDiff, and_self, ite_true, ite_false, zx1, zx2, zRecv, List.length_cons, List.length_nil, ne_eq, not_true_eq_false, not_false_eq_true, true_or, or_true, or_false, false_or, and_false, false_and, zf01, zf10, reduceCtorEq, zSw_c, zSw_n, zm_r, zit_T, zit_F, false_implies, true_implies, f_M_balance, f_M_isPerson, g_M_isPerson, f_M_balanceOf, g_M_balanceOf, zc_355])
    have h0 := h
    ((try simp only [zI_e]); (try unfold zit); (repeat' (first | done | omega | assumption | exact h.1 | apply And.intro | intro _ | split | rfl | assumption | (congr 1; omega))))
  · exact h.elim
def y_M_canLend : zMt := (⟨"DebtDoorsModel", "canLend", "(III)Z"⟩, prog_14_method_86_code, 4, some .boolean)
theorem d_M_canLend_0 : decode prog_14_method_86_code 0 = .ok (.iload_n 1, 1) := by decide +kernel
theorem d_M_canLend_1 : decode prog_14_method_86_code 1 = .ok (.iload_n 2, 1) := by decide +kernel
theorem d_M_canLend_2 : decode prog_14_method_86_code 2 = .ok (.if_icmp .eq 35, 3) := by decide +kernel
theorem d_M_canLend_5 : decode prog_14_method_86_code 5 = .ok (.aload_n 0, 1) := by decide +kernel
theorem d_M_canLend_6 : decode prog_14_method_86_code 6 = .ok (.getfield 24, 3) := by decide +kernel
theorem d_M_canLend_9 : decode prog_14_method_86_code 9 = .ok (.iconst 0, 1) := by decide +kernel
theorem d_M_canLend_10 : decode prog_14_method_86_code 10 = .ok (.iload_n 1, 1) := by decide +kernel
theorem d_M_canLend_11 : decode prog_14_method_86_code 11 = .ok (.iadd, 1) := by decide +kernel
theorem d_M_canLend_12 : decode prog_14_method_86_code 12 = .ok (.iaload, 1) := by decide +kernel
theorem d_M_canLend_13 : decode prog_14_method_86_code 13 = .ok (.iload_n 3, 1) := by decide +kernel
theorem d_M_canLend_14 : decode prog_14_method_86_code 14 = .ok (.if_icmp .lt 23, 3) := by decide +kernel
theorem d_M_canLend_17 : decode prog_14_method_86_code 17 = .ok (.aload_n 0, 1) := by decide +kernel
theorem d_M_canLend_18 : decode prog_14_method_86_code 18 = .ok (.getfield 24, 3) := by decide +kernel
theorem d_M_canLend_21 : decode prog_14_method_86_code 21 = .ok (.iconst 0, 1) := by decide +kernel
theorem d_M_canLend_22 : decode prog_14_method_86_code 22 = .ok (.iload_n 2, 1) := by decide +kernel
theorem d_M_canLend_23 : decode prog_14_method_86_code 23 = .ok (.iadd, 1) := by decide +kernel
theorem d_M_canLend_24 : decode prog_14_method_86_code 24 = .ok (.iaload, 1) := by decide +kernel
theorem d_M_canLend_25 : decode prog_14_method_86_code 25 = .ok (.iload_n 3, 1) := by decide +kernel
theorem d_M_canLend_26 : decode prog_14_method_86_code 26 = .ok (.iadd, 1) := by decide +kernel
theorem d_M_canLend_27 : decode prog_14_method_86_code 27 = .ok (.sipush 9999, 3) := by decide +kernel
theorem d_M_canLend_30 : decode prog_14_method_86_code 30 = .ok (.if_icmp .gt 7, 3) := by decide +kernel
theorem d_M_canLend_33 : decode prog_14_method_86_code 33 = .ok (.iconst 1, 1) := by decide +kernel
theorem d_M_canLend_34 : decode prog_14_method_86_code 34 = .ok (.goto 4, 3) := by decide +kernel
theorem d_M_canLend_37 : decode prog_14_method_86_code 37 = .ok (.iconst 0, 1) := by decide +kernel
theorem d_M_canLend_38 : decode prog_14_method_86_code 38 = .ok (.ireturn, 1) := by decide +kernel
def w_M_canLend {d : Nat} (hd : 1 ≤ d) := (show SS ("DebtDoorsModel", prog_14_method_86_code, 4) (some .boolean) d 0 0 0 0 _ from (sRz (xE (rTb (rAnd (mm := 17) (rAnd (mm := 5) (rNot (rJ2 (tgt := 37) j_eq (rIn 1 d_M_canLend_0 rfl) (rIn 2 d_M_canLend_1 rfl) d_M_canLend_2 (by decide))) (rNot (rJ2 (tgt := 37) j_lt (rIa (rFr fl_M_24 nk_12_2 (rAn 0 d_M_canLend_5 rfl) d_M_canLend_6) (r2 o_add (rI d_M_canLend_9 rfl) (rIn 1 d_M_canLend_10 rfl) d_M_canLend_11) d_M_canLend_12) (rIn 3 d_M_canLend_13 rfl) d_M_canLend_14 (by decide)))) (rNot (rJ2 (tgt := 37) j_gt (r2 o_add (rIa (rFr fl_M_24 nk_12_2 (rAn 0 d_M_canLend_17 rfl) d_M_canLend_18) (r2 o_add (rI d_M_canLend_21 rfl) (rIn 2 d_M_canLend_22 rfl) d_M_canLend_23) d_M_canLend_24) (rIn 3 d_M_canLend_25 rfl) d_M_canLend_26) (rSi d_M_canLend_27 rfl) d_M_canLend_30 (by decide)))) (rGoE (p2 := 38) (rI d_M_canLend_33 rfl) d_M_canLend_34 (by decide)) (rI d_M_canLend_37 rfl))) d_M_canLend_38 rfl))
noncomputable def f_M_canLend : List zV → zMem → Int
  | [.inr (.inr (.inl q0)), .inl a, .inl b, .inl m], μ => zbp (a ≠ b ∧ m ≤ μ 357 a ∧ μ 357 b + m ≤ 9999)
  | _, _ => 0
def g_M_canLend : List zV → zMem → Prop
  | [.inr (.inr (.inl q0)), .inl a, .inl b, .inl m], μ => q0 = 355 ∧ ((0 ≤ a ∧ a < 7) ∧ (0 ≤ b ∧ b < 7) ∧ (0 ≤ μ 357 b ∧ μ 357 b ≤ 9999) ∧ -1000000 ≤ m ∧ m ≤ 1000000)
  | _, _ => False
theorem p_M_canLend : zPu y_M_canLend 1 f_M_canLend g_M_canLend := by
  intro as μ h
  unfold g_M_canLend at h
  split at h
  · next q0 a b m =>
    obtain ⟨rfl, h⟩ := h
    refine zSp.ss [vr 355, vi a, vi b, vi m] rfl (w_M_canLend (Nat.le_refl _)) rfl rfl ?_
    (try simp only [zit_e, Bool.and_eq_true, Bool.or_eq_true, Bool.not_eq_true', Bool.and_eq_false_iff, Bool.or_eq_false_iff, Bool.not_eq_false', zbe, zdt, zdf, zb2_p, zbp_0, zbp_1, zbp_inj, zbp_01, Bool.true_eq_false, Bool.false_eq_true, true_and, and_true, Decidable.not_not, Classical.not_not, implies_true, List.nil_append, List.cons_append, List.append_assoc, Option.some.injEq, Sum.inl.injEq, zSw_c, zSw_n]); (try simp only [zit_e, Bool.and_eq_true, Bool.or_eq_true, Bool.not_eq_true', Bool.and_eq_false_iff, Bool.or_eq_false_iff, Bool.not_eq_false', zbe, zdt, zdf, zb2_p, zbp_0, zbp_1, zbp_inj, zbp_01, Bool.true_eq_false, Bool.false_eq_true, true_and, and_true, Decidable.not_not, Classical.not_not, implies_true, List.nil_append, List.cons_append, List.append_assoc, Option.some.injEq, Sum.inl.injEq, zSw_c, zSw_n, f_M_canLend, zc_355]); (try simp only [zi_cs, zi_c0, zii_cs, zii_c0, zl_cs, zl_c0, zll_cs, zll_c0, zr_cs, zr_c0, zrr_cs, zrr_c0, zxs_cs, zxs_c0, zxx_cs, zxx_c0, zfree_c0, zfree_c1, zfree_cs, zfree_cz, zlong_i, zlong_r, zlong_x, zset_0, zset_s, true_and, and_true, Option.some.injEq, Sum.inl.injEq, Sum.inr.injEq, zb2_p, zbp_0, zbp_1, zbp_inj, zbp_01, Nat.zero_add, Nat.reduceAdd, implies_true, List.nil_append, List.cons_append, List.append_assoc, Int.not_lt, Int.not_le, Decidable.not_not, Int.zero_add, Int.reduceLE, Int.reduceLT, Int.reduceEq, Int.reduceNe, Int.reduceAdd, Int.reduceSub, Int.reduceMul, Int.reduceNeg, Int.reduceToNat, Nat.reduceMul, Nat.reduceLT, Nat.reduceEqDiff, and_self, ite_true, ite_false, zx1, zx2, zRecv, List.length_cons, List.length_nil, ne_eq, not_true_eq_false, not_false_eq_true, true_or, or_true, or_false, false_or, and_false, false_and, zf01, zf10, reduceCtorEq, zSw_c, zSw_n, zm_r, zit_T, zit_F, false_implies, true_implies, f_M_canLend, zc_355])
    have h0 := h
    ((try simp only [zI_e]); (try unfold zit); (repeat' (first | done | omega | assumption | exact h.1 | apply And.intro | intro _ | split | rfl | assumption | (congr 1; omega))))
  · exact h.elim
theorem m_M_lesser : Cond.static y_M_lesser.1 ∈ zTb ∧ Cond.initialized y_M_lesser.1.cls ∈ zTb ∧ Cond.code y_M_lesser.1 y_M_lesser.2.1 y_M_lesser.2.2.1 y_M_lesser.2.2.2 ∈ zTb ∧ (y_M_lesser.1.cls ≠ "java/lang/invoke/MethodHandle" ∧ y_M_lesser.1.cls ≠ "java/lang/invoke/VarHandle" ∧ (parseMethodDescriptor y_M_lesser.1.desc).map (fun d => d.parameters.length) = some 2) ∧ y_M_lesser.2.2.1 ≤ 20 :=
  ⟨(zTb_in 1804 (by decide +kernel) (by decide +kernel)), (zTb_in 151 (by decide +kernel) (by decide +kernel)), (zTb_in 1805 (by decide +kernel) (by decide +kernel)), by decide +kernel, by decide +kernel⟩
theorem ls_M_335 : zLs "DebtDoorsModel" 335 y_M_lesser 2 := Or.inl ⟨(zTb_in 1803 (by decide +kernel) (by decide +kernel)), m_M_lesser⟩
def y_M_canRepay : zMt := (⟨"DebtDoorsModel", "canRepay", "(III)I"⟩, prog_14_method_89_code, 4, some .int)
theorem d_M_canRepay_0 : decode prog_14_method_89_code 0 = .ok (.iload_n 1, 1) := by decide +kernel
theorem d_M_canRepay_1 : decode prog_14_method_89_code 1 = .ok (.iload_n 2, 1) := by decide +kernel
theorem d_M_canRepay_2 : decode prog_14_method_89_code 2 = .ok (.if_icmp .ne 5, 3) := by decide +kernel
theorem d_M_canRepay_5 : decode prog_14_method_89_code 5 = .ok (.iconst 0, 1) := by decide +kernel
theorem d_M_canRepay_6 : decode prog_14_method_89_code 6 = .ok (.ireturn, 1) := by decide +kernel
theorem d_M_canRepay_7 : decode prog_14_method_89_code 7 = .ok (.iload_n 3, 1) := by decide +kernel
theorem d_M_canRepay_8 : decode prog_14_method_89_code 8 = .ok (.aload_n 0, 1) := by decide +kernel
theorem d_M_canRepay_9 : decode prog_14_method_89_code 9 = .ok (.iload_n 1, 1) := by decide +kernel
theorem d_M_canRepay_10 : decode prog_14_method_89_code 10 = .ok (.iload_n 2, 1) := by decide +kernel
theorem d_M_canRepay_11 : decode prog_14_method_89_code 11 = .ok (.invokevirtual 178, 3) := by decide +kernel
theorem d_M_canRepay_14 : decode prog_14_method_89_code 14 = .ok (.invokestatic 335, 3) := by decide +kernel
theorem d_M_canRepay_17 : decode prog_14_method_89_code 17 = .ok (.aload_n 0, 1) := by decide +kernel
theorem d_M_canRepay_18 : decode prog_14_method_89_code 18 = .ok (.getfield 24, 3) := by decide +kernel
theorem d_M_canRepay_21 : decode prog_14_method_89_code 21 = .ok (.iconst 0, 1) := by decide +kernel
theorem d_M_canRepay_22 : decode prog_14_method_89_code 22 = .ok (.iload_n 1, 1) := by decide +kernel
theorem d_M_canRepay_23 : decode prog_14_method_89_code 23 = .ok (.iadd, 1) := by decide +kernel
theorem d_M_canRepay_24 : decode prog_14_method_89_code 24 = .ok (.iaload, 1) := by decide +kernel
theorem d_M_canRepay_25 : decode prog_14_method_89_code 25 = .ok (.sipush 9999, 3) := by decide +kernel
theorem d_M_canRepay_28 : decode prog_14_method_89_code 28 = .ok (.aload_n 0, 1) := by decide +kernel
theorem d_M_canRepay_29 : decode prog_14_method_89_code 29 = .ok (.getfield 24, 3) := by decide +kernel
theorem d_M_canRepay_32 : decode prog_14_method_89_code 32 = .ok (.iconst 0, 1) := by decide +kernel
theorem d_M_canRepay_33 : decode prog_14_method_89_code 33 = .ok (.iload_n 2, 1) := by decide +kernel
theorem d_M_canRepay_34 : decode prog_14_method_89_code 34 = .ok (.iadd, 1) := by decide +kernel
theorem d_M_canRepay_35 : decode prog_14_method_89_code 35 = .ok (.iaload, 1) := by decide +kernel
theorem d_M_canRepay_36 : decode prog_14_method_89_code 36 = .ok (.isub, 1) := by decide +kernel
theorem d_M_canRepay_37 : decode prog_14_method_89_code 37 = .ok (.invokestatic 335, 3) := by decide +kernel
theorem d_M_canRepay_40 : decode prog_14_method_89_code 40 = .ok (.invokestatic 335, 3) := by decide +kernel
theorem d_M_canRepay_43 : decode prog_14_method_89_code 43 = .ok (.ireturn, 1) := by decide +kernel
def w_M_canRepay {d : Nat} (hd : 3 ≤ d) := (show SS ("DebtDoorsModel", prog_14_method_89_code, 4) (some .int) d 0 0 0 0 _ from (sS (p1 := 7) (sIf (pn := 7) (tt := 5) (xC (rNot (rJ2 (tgt := 7) j_ne (rIn 1 d_M_canRepay_0 rfl) (rIn 2 d_M_canRepay_1 rfl) d_M_canRepay_2 (by decide)))) (sRi (xE (rI d_M_canRepay_5 rfl)) d_M_canRepay_6 rfl)) (sRi (xE (rS p_M_lesser (Nat.le_trans (Nat.le_of_ble_eq_true rfl) hd) ls_M_335 (rAi (rAi rA0 (rS p_M_lesser (Nat.le_trans (Nat.le_of_ble_eq_true rfl) hd) ls_M_335 (rAi (rAi rA0 (rIn 3 d_M_canRepay_7 rfl)) (rV p_M_owed (Nat.le_trans (Nat.le_of_ble_eq_true rfl) hd) lv_M_178 (rAi (rAi (rAr rA0 (rAn 0 d_M_canRepay_8 rfl)) (rIn 1 d_M_canRepay_9 rfl)) (rIn 2 d_M_canRepay_10 rfl)) (by decide) d_M_canRepay_11)) (by decide) d_M_canRepay_14)) (rS p_M_lesser (Nat.le_trans (Nat.le_of_ble_eq_true rfl) hd) ls_M_335 (rAi (rAi rA0 (rIa (rFr fl_M_24 nk_12_2 (rAn 0 d_M_canRepay_17 rfl) d_M_canRepay_18) (r2 o_add (rI d_M_canRepay_21 rfl) (rIn 1 d_M_canRepay_22 rfl) d_M_canRepay_23) d_M_canRepay_24)) (r2 o_sub (rSi d_M_canRepay_25 rfl) (rIa (rFr fl_M_24 nk_12_2 (rAn 0 d_M_canRepay_28 rfl) d_M_canRepay_29) (r2 o_add (rI d_M_canRepay_32 rfl) (rIn 2 d_M_canRepay_33 rfl) d_M_canRepay_34) d_M_canRepay_35) d_M_canRepay_36)) (by decide) d_M_canRepay_37)) (by decide) d_M_canRepay_40)) d_M_canRepay_43 rfl)))
noncomputable def f_M_canRepay : List zV → zMem → Int
  | [.inr (.inr (.inl q0)), .inl a, .inl b, .inl m], μ => if a = b then 0 else min (min m (owL a b (dbM μ))) (min (μ 357 a) (9999 - μ 357 b))
  | _, _ => 0
def g_M_canRepay : List zV → zMem → Prop
  | [.inr (.inr (.inl q0)), .inl a, .inl b, .inl m], μ => q0 = 355 ∧ (okT (μ 357 71) (fM μ) ∧ (0 ≤ a ∧ a < 7) ∧ (0 ≤ b ∧ b < 7) ∧ (0 ≤ μ 357 b ∧ μ 357 b ≤ 9999))
  | _, _ => False
theorem p_M_canRepay : zPu y_M_canRepay 3 f_M_canRepay g_M_canRepay := by
  intro as μ h
  unfold g_M_canRepay at h
  split at h
  · next q0 a b m =>
    obtain ⟨rfl, h⟩ := h
    refine zSp.ss [vr 355, vi a, vi b, vi m] rfl (w_M_canRepay (Nat.le_refl _)) rfl rfl ?_
    (try simp only [zit_e, Bool.and_eq_true, Bool.or_eq_true, Bool.not_eq_true', Bool.and_eq_false_iff, Bool.or_eq_false_iff, Bool.not_eq_false', zbe, zdt, zdf, zb2_p, zbp_0, zbp_1, zbp_inj, zbp_01, Bool.true_eq_false, Bool.false_eq_true, true_and, and_true, Decidable.not_not, Classical.not_not, implies_true, List.nil_append, List.cons_append, List.append_assoc, Option.some.injEq, Sum.inl.injEq, zSw_c, zSw_n]); (try simp only [zit_e, Bool.and_eq_true, Bool.or_eq_true, Bool.not_eq_true', Bool.and_eq_false_iff, Bool.or_eq_false_iff, Bool.not_eq_false', zbe, zdt, zdf, zb2_p, zbp_0, zbp_1, zbp_inj, zbp_01, Bool.true_eq_false, Bool.false_eq_true, true_and, and_true, Decidable.not_not, Classical.not_not, implies_true, List.nil_append, List.cons_append, List.append_assoc, Option.some.injEq, Sum.inl.injEq, zSw_c, zSw_n, f_M_canRepay, f_M_owed, g_M_owed, f_M_lesser, g_M_lesser, zc_355]); (try simp only [zi_cs, zi_c0, zii_cs, zii_c0, zl_cs, zl_c0, zll_cs, zll_c0, zr_cs, zr_c0, zrr_cs, zrr_c0, zxs_cs, zxs_c0, zxx_cs, zxx_c0, zfree_c0, zfree_c1, zfree_cs, zfree_cz, zlong_i, zlong_r, zlong_x, zset_0, zset_s, true_and, and_true, Option.some.injEq, Sum.inl.injEq, Sum.inr.injEq, zb2_p, zbp_0, zbp_1, zbp_inj, zbp_01, Nat.zero_add, Nat.reduceAdd, implies_true, List.nil_append, List.cons_append, List.append_assoc, Int.not_lt, Int.not_le, Decidable.not_not, Int.zero_add, Int.reduceLE, Int.reduceLT, Int.reduceEq, Int.reduceNe, Int.reduceAdd, Int.reduceSub, Int.reduceMul, Int.reduceNeg, Int.reduceToNat, Nat.reduceMul, Nat.reduceLT, Nat.reduceEqDiff, and_self, ite_true, ite_false, zx1, zx2, zRecv, List.length_cons, List.length_nil, ne_eq, not_true_eq_false, not_false_eq_true, true_or, or_true, or_false, false_or, and_false, false_and, zf01, zf10, reduceCtorEq, zSw_c, zSw_n, zm_r, zit_T, zit_F, false_implies, true_implies, f_M_canRepay, f_M_owed, g_M_owed, f_M_lesser, g_M_lesser, zc_355])
    have h0 := h
    ((try simp only [zI_e]); (try unfold zit); (repeat' (first | done | omega | assumption | exact h.1 | apply And.intro | intro _ | split | rfl | assumption | (congr 1; omega))))
  · exact h.elim

