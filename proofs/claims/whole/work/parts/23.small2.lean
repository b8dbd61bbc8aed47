theorem fl_Le_33 : zFl "DebtDoors$Ledger" 33 1 5 := ⟨_, rfl, by decide, (zTb_in 203 (by decide +kernel) (by decide +kernel)), rfl⟩
theorem nk_1_5 : zNk 1 5 = some 0 := rfl
def y_Le_has : zMt := (⟨"DebtDoors$Ledger", "has", "(I)Z"⟩, prog_3_method_3_code, 2, some .boolean)
theorem d_Le_has_0 : decode prog_3_method_3_code 0 = .ok (.iload_n 1, 1) := by decide +kernel
theorem d_Le_has_1 : decode prog_3_method_3_code 1 = .ok (.ifCond .lt 15, 3) := by decide +kernel
theorem d_Le_has_4 : decode prog_3_method_3_code 4 = .ok (.iload_n 1, 1) := by decide +kernel
theorem d_Le_has_5 : decode prog_3_method_3_code 5 = .ok (.aload_n 0, 1) := by decide +kernel
theorem d_Le_has_6 : decode prog_3_method_3_code 6 = .ok (.getfield 33, 3) := by decide +kernel
theorem d_Le_has_9 : decode prog_3_method_3_code 9 = .ok (.if_icmp .ge 7, 3) := by decide +kernel
theorem d_Le_has_12 : decode prog_3_method_3_code 12 = .ok (.iconst 1, 1) := by decide +kernel
theorem d_Le_has_13 : decode prog_3_method_3_code 13 = .ok (.goto 4, 3) := by decide +kernel
theorem d_Le_has_16 : decode prog_3_method_3_code 16 = .ok (.iconst 0, 1) := by decide +kernel
theorem d_Le_has_17 : decode prog_3_method_3_code 17 = .ok (.ireturn, 1) := by decide +kernel
def w_Le_has {d : Nat} (hd : 1 ≤ d) := (show SS ("DebtDoors$Ledger", prog_3_method_3_code, 2) (some .boolean) d 0 0 0 0 _ from (sRz (xE (rTb (rAnd (mm := 4) (rNot (rJ1 (tgt := 16) k_lt (rIn 1 d_Le_has_0 rfl) d_Le_has_1 (by decide))) (rNot (rJ2 (tgt := 16) j_ge (rIn 1 d_Le_has_4 rfl) (rF 5 fl_Le_33 nk_1_5 (rAn 0 d_Le_has_5 rfl) d_Le_has_6 rfl) d_Le_has_9 (by decide)))) (rGoE (p2 := 17) (rI d_Le_has_12 rfl) d_Le_has_13 (by decide)) (rI d_Le_has_16 rfl))) d_Le_has_17 rfl))
noncomputable def f_Le_has : List zV → zMem → Int
  | [.inr (.inr (.inl q0)), .inl i], μ => zbp (0 ≤ i ∧ i < μ 2 5)
  | _, _ => 0
def g_Le_has : List zV → zMem → Prop
  | [.inr (.inr (.inl q0)), .inl i], μ => q0 = 2 ∧ (True)
  | _, _ => False
theorem p_Le_has : zPu y_Le_has 1 f_Le_has g_Le_has := by
  intro as μ h
  unfold g_Le_has at h
  split at h
  · next q0 i =>
    obtain ⟨rfl, h⟩ := h
    refine zSp.ss [vr 2, vi i] rfl (w_Le_has (Nat.le_refl _)) rfl rfl ?_
    (try simp only [zit_e, Bool.and_eq_true, Bool.or_eq_true, Bool.not_eq_true', Bool.and_eq_false_iff, Bool.or_eq_false_iff, Bool.not_eq_false', zbe, zdt, zdf, zb2_p, zbp_0, zbp_1, zbp_inj, zbp_01, Bool.true_eq_false, Bool.false_eq_true, true_and, and_true, Decidable.not_not, Classical.not_not, implies_true, List.nil_append, List.cons_append, List.append_assoc, Option.some.injEq, Sum.inl.injEq, zSw_c, zSw_n]); (try simp only [zit_e, Bool.and_eq_true, Bool.or_eq_true, Bool.not_eq_true', Bool.and_eq_false_iff, Bool.or_eq_false_iff, Bool.not_eq_false', zbe, zdt, zdf, zb2_p, zbp_0, zbp_1, zbp_inj, zbp_01, Bool.true_eq_false, Bool.false_eq_true, true_and, and_true, Decidable.not_not, Classical.not_not, implies_true, List.nil_append, List.cons_append, List.append_assoc, Option.some.injEq, Sum.inl.injEq, zSw_c, zSw_n, f_Le_has, zc_2]); (try simp only [zi_cs, zi_c0, zii_cs, zii_c0, zl_cs, zl_c0, zll_cs, zll_c0, zr_cs, zr_c0, zrr_cs, zrr_c0, zxs_cs, zxs_c0, zxx_cs, zxx_c0, zfree_c0, zfree_c1, zfree_cs, zfree_cz, zlong_i, zlong_r, zlong_x, zset_0, zset_s, true_and, and_true, Option.some.injEq, Sum.inl.injEq, Sum.inr.injEq, zb2_p, zbp_0, zbp_1, zbp_inj, zbp_01, Nat.zero_add, Nat.reduceAdd, implies_true, List.nil_append, List.cons_append, List.append_assoc, Int.not_lt, Int.not_le, Decidable.not_not, Int.zero_add, Int.reduceLE, Int.reduceLT, Int.reduceEq, Int.reduceNe, Int.reduceAdd, Int.reduceSub, Int.reduceMul, Int.reduceNeg, Int.reduceToNat, Nat.reduceMul, Nat.reduceLT, Nat.reduceEqDiff, and_self, ite_true, ite_false, zx1, zx2, zRecv, List.length_cons, List.length_nil, ne_eq, not_true_eq_false, not_false_eq_true, true_or, or_true, or_false, false_or, and_false, false_and, zf01, zf10, reduceCtorEq, zSw_c, zSw_n, zm_r, zit_T, zit_F, false_implies, true_implies, f_Le_has, zc_2])
    omega
  · exact h.elim
theorem fl_To_50 : zFl "DebtDoors$Town" 50 9 6 := ⟨_, rfl, by decide, (zTb_in 250 (by decide +kernel) (by decide +kernel)), rfl⟩
theorem nk_9_6 : zNk 9 6 = some 0 := rfl
def y_To_has : zMt := (⟨"DebtDoors$Town", "has", "(I)Z"⟩, prog_11_method_3_code, 2, some .boolean)
theorem d_To_has_0 : decode prog_11_method_3_code 0 = .ok (.iload_n 1, 1) := by decide +kernel
theorem d_To_has_1 : decode prog_11_method_3_code 1 = .ok (.ifCond .lt 15, 3) := by decide +kernel
theorem d_To_has_4 : decode prog_11_method_3_code 4 = .ok (.iload_n 1, 1) := by decide +kernel
theorem d_To_has_5 : decode prog_11_method_3_code 5 = .ok (.aload_n 0, 1) := by decide +kernel
theorem d_To_has_6 : decode prog_11_method_3_code 6 = .ok (.getfield 50, 3) := by decide +kernel
theorem d_To_has_9 : decode prog_11_method_3_code 9 = .ok (.if_icmp .ge 7, 3) := by decide +kernel
theorem d_To_has_12 : decode prog_11_method_3_code 12 = .ok (.iconst 1, 1) := by decide +kernel
theorem d_To_has_13 : decode prog_11_method_3_code 13 = .ok (.goto 4, 3) := by decide +kernel
theorem d_To_has_16 : decode prog_11_method_3_code 16 = .ok (.iconst 0, 1) := by decide +kernel
theorem d_To_has_17 : decode prog_11_method_3_code 17 = .ok (.ireturn, 1) := by decide +kernel
def w_To_has {d : Nat} (hd : 1 ≤ d) := (show SS ("DebtDoors$Town", prog_11_method_3_code, 2) (some .boolean) d 0 0 0 0 _ from (sRz (xE (rTb (rAnd (mm := 4) (rNot (rJ1 (tgt := 16) k_lt (rIn 1 d_To_has_0 rfl) d_To_has_1 (by decide))) (rNot (rJ2 (tgt := 16) j_ge (rIn 1 d_To_has_4 rfl) (rF 6 fl_To_50 nk_9_6 (rAn 0 d_To_has_5 rfl) d_To_has_6 rfl) d_To_has_9 (by decide)))) (rGoE (p2 := 17) (rI d_To_has_12 rfl) d_To_has_13 (by decide)) (rI d_To_has_16 rfl))) d_To_has_17 rfl))
noncomputable def f_To_has : List zV → zMem → Int
  | [.inr (.inr (.inl q0)), .inl i], μ => zbp (0 ≤ i ∧ i < μ 1 6)
  | _, _ => 0
def g_To_has : List zV → zMem → Prop
  | [.inr (.inr (.inl q0)), .inl i], μ => q0 = 1 ∧ (True)
  | _, _ => False
theorem p_To_has : zPu y_To_has 1 f_To_has g_To_has := by
  intro as μ h
  unfold g_To_has at h
  split at h
  · next q0 i =>
    obtain ⟨rfl, h⟩ := h
    refine zSp.ss [vr 1, vi i] rfl (w_To_has (Nat.le_refl _)) rfl rfl ?_
    (try simp only [zit_e, Bool.and_eq_true, Bool.or_eq_true, Bool.not_eq_true', Bool.and_eq_false_iff, Bool.or_eq_false_iff, Bool.not_eq_false', zbe, zdt, zdf, zb2_p, zbp_0, zbp_1, zbp_inj, zbp_01, Bool.true_eq_false, Bool.false_eq_true, true_and, and_true, Decidable.not_not, Classical.not_not, implies_true, List.nil_append, List.cons_append, List.append_assoc, Option.some.injEq, Sum.inl.injEq, zSw_c, zSw_n]); (try simp only [zit_e, Bool.and_eq_true, Bool.or_eq_true, Bool.not_eq_true', Bool.and_eq_false_iff, Bool.or_eq_false_iff, Bool.not_eq_false', zbe, zdt, zdf, zb2_p, zbp_0, zbp_1, zbp_inj, zbp_01, Bool.true_eq_false, Bool.false_eq_true, true_and, and_true, Decidable.not_not, Classical.not_not, implies_true, List.nil_append, List.cons_append, List.append_assoc, Option.some.injEq, Sum.inl.injEq, zSw_c, zSw_n, f_To_has, zc_1]); (try simp only [zi_cs, zi_c0, zii_cs, zii_c0, zl_cs, zl_c0, zll_cs, zll_c0, zr_cs, zr_c0, zrr_cs, zrr_c0, zxs_cs, zxs_c0, zxx_cs, zxx_c0, zfree_c0, zfree_c1, zfree_cs, zfree_cz, zlong_i, zlong_r, zlong_x, zset_0, zset_s, true_and, and_true, Option.some.injEq, Sum.inl.injEq, Sum.inr.injEq, zb2_p, zbp_0, zbp_1, zbp_inj, zbp_01, Nat.zero_add, Nat.reduceAdd, implies_true, List.nil_append, List.cons_append, List.append_assoc, Int.not_lt, Int.not_le, Decidable.not_not, Int.zero_add, Int.reduceLE, Int.reduceLT, Int.reduceEq, Int.reduceNe, Int.reduceAdd, Int.reduceSub, Int.reduceMul, Int.reduceNeg, Int.reduceToNat, Nat.reduceMul, Nat.reduceLT, Nat.reduceEqDiff, and_self, ite_true, ite_false, zx1, zx2, zRecv, List.length_cons, List.length_nil, ne_eq, not_true_eq_false, not_false_eq_true, true_or, or_true, or_false, false_or, and_false, false_and, zf01, zf10, reduceCtorEq, zSw_c, zSw_n, zm_r, zit_T, zit_F, false_implies, true_implies, f_To_has, zc_1])
    omega
  · exact h.elim
theorem m_To_has : Cond.instanceMethod y_To_has.1 ∈ zTb ∧ Cond.selects y_To_has.1.cls y_To_has.1 y_To_has.1 ∈ zTb ∧ Cond.initialized y_To_has.1.cls ∈ zTb ∧ Cond.code y_To_has.1 y_To_has.2.1 y_To_has.2.2.1 y_To_has.2.2.2 ∈ zTb ∧ (y_To_has.1.cls ≠ "java/lang/invoke/MethodHandle" ∧ y_To_has.1.cls ≠ "java/lang/invoke/VarHandle" ∧ (parseMethodDescriptor y_To_has.1.desc).map (fun d => d.parameters.length) = some 1) ∧ y_To_has.2.2.1 ≤ 20 :=
  ⟨(zTb_in 622 (by decide +kernel) (by decide +kernel)), (zTb_in 623 (by decide +kernel) (by decide +kernel)), (zTb_in 140 (by decide +kernel) (by decide +kernel)), (zTb_in 624 (by decide +kernel) (by decide +kernel)), by decide +kernel, by decide +kernel⟩
theorem lv_To_65 : zLv "DebtDoors$Town" 65 y_To_has 1 9 := ⟨⟨(zTb_in 708 (by decide +kernel) (by decide +kernel)), m_To_has.1, m_To_has.2.1, m_To_has.2.2⟩, _, rfl, rfl⟩
def y_To_hasPair : zMt := (⟨"DebtDoors$Town", "hasPair", "(II)Z"⟩, prog_11_method_4_code, 3, some .boolean)
theorem d_To_hasPair_0 : decode prog_11_method_4_code 0 = .ok (.iload_n 1, 1) := by decide +kernel
theorem d_To_hasPair_1 : decode prog_11_method_4_code 1 = .ok (.iload_n 2, 1) := by decide +kernel
theorem d_To_hasPair_2 : decode prog_11_method_4_code 2 = .ok (.if_icmp .eq 23, 3) := by decide +kernel
theorem d_To_hasPair_5 : decode prog_11_method_4_code 5 = .ok (.aload_n 0, 1) := by decide +kernel
theorem d_To_hasPair_6 : decode prog_11_method_4_code 6 = .ok (.iload_n 1, 1) := by decide +kernel
theorem d_To_hasPair_7 : decode prog_11_method_4_code 7 = .ok (.invokevirtual 65, 3) := by decide +kernel
theorem d_To_hasPair_10 : decode prog_11_method_4_code 10 = .ok (.ifCond .eq 15, 3) := by decide +kernel
theorem d_To_hasPair_13 : decode prog_11_method_4_code 13 = .ok (.aload_n 0, 1) := by decide +kernel
theorem d_To_hasPair_14 : decode prog_11_method_4_code 14 = .ok (.iload_n 2, 1) := by decide +kernel
theorem d_To_hasPair_15 : decode prog_11_method_4_code 15 = .ok (.invokevirtual 65, 3) := by decide +kernel
theorem d_To_hasPair_18 : decode prog_11_method_4_code 18 = .ok (.ifCond .eq 7, 3) := by decide +kernel
theorem d_To_hasPair_21 : decode prog_11_method_4_code 21 = .ok (.iconst 1, 1) := by decide +kernel
theorem d_To_hasPair_22 : decode prog_11_method_4_code 22 = .ok (.goto 4, 3) := by decide +kernel
theorem d_To_hasPair_25 : decode prog_11_method_4_code 25 = .ok (.iconst 0, 1) := by decide +kernel
theorem d_To_hasPair_26 : decode prog_11_method_4_code 26 = .ok (.ireturn, 1) := by decide +kernel
def w_To_hasPair {d : Nat} (hd : 2 ≤ d) := (show SS ("DebtDoors$Town", prog_11_method_4_code, 3) (some .boolean) d 0 0 0 0 _ from (sRz (xE (rTb (rAnd (mm := 13) (rAnd (mm := 5) (rNot (rJ2 (tgt := 25) j_eq (rIn 1 d_To_hasPair_0 rfl) (rIn 2 d_To_hasPair_1 rfl) d_To_hasPair_2 (by decide))) (rNot (rJ1 (tgt := 25) k_eq (rV p_To_has (Nat.le_trans (Nat.le_of_ble_eq_true rfl) hd) lv_To_65 (rAi (rAr rA0 (rAn 0 d_To_hasPair_5 rfl)) (rIn 1 d_To_hasPair_6 rfl)) (by decide) d_To_hasPair_7) d_To_hasPair_10 (by decide)))) (rNot (rJ1 (tgt := 25) k_eq (rV p_To_has (Nat.le_trans (Nat.le_of_ble_eq_true rfl) hd) lv_To_65 (rAi (rAr rA0 (rAn 0 d_To_hasPair_13 rfl)) (rIn 2 d_To_hasPair_14 rfl)) (by decide) d_To_hasPair_15) d_To_hasPair_18 (by decide)))) (rGoE (p2 := 26) (rI d_To_hasPair_21 rfl) d_To_hasPair_22 (by decide)) (rI d_To_hasPair_25 rfl))) d_To_hasPair_26 rfl))
noncomputable def f_To_hasPair : List zV → zMem → Int
  | [.inr (.inr (.inl q0)), .inl i, .inl j], μ => zbp (i ≠ j ∧ (0 ≤ i ∧ i < μ 1 6) ∧ 0 ≤ j ∧ j < μ 1 6)
  | _, _ => 0
def g_To_hasPair : List zV → zMem → Prop
  | [.inr (.inr (.inl q0)), .inl i, .inl j], μ => q0 = 1 ∧ (True)
  | _, _ => False
theorem p_To_hasPair : zPu y_To_hasPair 2 f_To_hasPair g_To_hasPair := by
  intro as μ h
  unfold g_To_hasPair at h
  split at h
  · next q0 i j =>
    obtain ⟨rfl, h⟩ := h
    refine zSp.ss [vr 1, vi i, vi j] rfl (w_To_hasPair (Nat.le_refl _)) rfl rfl ?_
    (try simp only [zit_e, Bool.and_eq_true, Bool.or_eq_true, Bool.not_eq_true', Bool.and_eq_false_iff, Bool.or_eq_false_iff, Bool.not_eq_false', zbe, zdt, zdf, zb2_p, zbp_0, zbp_1, zbp_inj, zbp_01, Bool.true_eq_false, Bool.false_eq_true, true_and, and_true, Decidable.not_not, Classical.not_not, implies_true, List.nil_append, List.cons_append, List.append_assoc, Option.some.injEq, Sum.inl.injEq, zSw_c, zSw_n]); (try simp only [zit_e, Bool.and_eq_true, Bool.or_eq_true, Bool.not_eq_true', Bool.and_eq_false_iff, Bool.or_eq_false_iff, Bool.not_eq_false', zbe, zdt, zdf, zb2_p, zbp_0, zbp_1, zbp_inj, zbp_01, Bool.true_eq_false, Bool.false_eq_true, true_and, and_true, Decidable.not_not, Classical.not_not, implies_true, List.nil_append, List.cons_append, List.append_assoc, Option.some.injEq, Sum.inl.injEq, zSw_c, zSw_n, f_To_hasPair, f_To_has, g_To_has, zc_1]); (try simp only [zi_cs, zi_c0, zii_cs, zii_c0, zl_cs, zl_c0, zll_cs, zll_c0, zr_cs, zr_c0, zrr_cs, zrr_c0, zxs_cs, zxs_c0, zxx_cs, zxx_c0, zfree_c0, zfree_c1, zfree_cs, zfree_cz, zlong_i, zlong_r, zlong_x, zset_0, zset_s, true_and, and_true, Option.some.injEq, Sum.inl.injEq, Sum.inr.injEq, zb2_p, zbp_0, zbp_1, zbp_inj, zbp_01, Nat.zero_add, Nat.reduceAdd, implies_true, List.nil_append, List.cons_append, List.append_assoc, Int.not_lt, Int.not_le, Decidable.not_not, Int.zero_add, Int.reduceLE, Int.reduceLT, Int.reduceEq, Int.reduceNe, Int.reduceAdd, Int.reduceSub, Int.reduceMul, Int.reduceNeg, Int.reduceToNat, Nat.reduceMul, Nat.reduceLT, Nat.reduceEqDiff, and_self, ite_true, ite_false, zx1, zx2, zRecv, List.length_cons, List.length_nil, ne_eq, not_true_eq_false, not_false_eq_true, true_or, or_true, or_false, false_or, and_false, false_and, zf01, zf10, reduceCtorEq, zSw_c, zSw_n, zm_r, zit_T, zit_F, false_implies, true_implies, f_To_hasPair, f_To_has, g_To_has, zc_1])
    ((try simp only [zI_e]); (first | done | omega | skip))
  · exact h.elim
theorem nk_9_2 : zNk 9 2 = none := rfl
theorem nk_9_1 : zNk 9 1 = none := rfl
theorem fl_To_69 : zFl "DebtDoors$Town" 69 1 0 := ⟨_, rfl, by decide, (zTb_in 182 (by decide +kernel) (by decide +kernel)), rfl⟩
theorem nk_1_0 : zNk 1 0 = none := rfl
theorem nk_9_0 : zNk 9 0 = none := rfl
def y_To_trait : zMt := (⟨"DebtDoors$Town", "trait", "(II)I"⟩, prog_11_method_5_code, 3, some .int)
theorem d_To_trait_0 : decode prog_11_method_5_code 0 = .ok (.iload_n 2, 1) := by decide +kernel
theorem d_To_trait_1 : decode prog_11_method_5_code 1 = .ok (.tableswitch 51 0 2 #[27, 37, 44], 27) := by decide +kernel
theorem d_To_trait_28 : decode prog_11_method_5_code 28 = .ok (.aload_n 0, 1) := by decide +kernel
theorem d_To_trait_29 : decode prog_11_method_5_code 29 = .ok (.getfield 12, 3) := by decide +kernel
theorem d_To_trait_32 : decode prog_11_method_5_code 32 = .ok (.getfield 69, 3) := by decide +kernel
theorem d_To_trait_35 : decode prog_11_method_5_code 35 = .ok (.iload_n 1, 1) := by decide +kernel
theorem d_To_trait_36 : decode prog_11_method_5_code 36 = .ok (.iaload, 1) := by decide +kernel
theorem d_To_trait_37 : decode prog_11_method_5_code 37 = .ok (.ireturn, 1) := by decide +kernel
theorem d_To_trait_38 : decode prog_11_method_5_code 38 = .ok (.aload_n 0, 1) := by decide +kernel
theorem d_To_trait_39 : decode prog_11_method_5_code 39 = .ok (.getfield 18, 3) := by decide +kernel
theorem d_To_trait_42 : decode prog_11_method_5_code 42 = .ok (.iload_n 1, 1) := by decide +kernel
theorem d_To_trait_43 : decode prog_11_method_5_code 43 = .ok (.iaload, 1) := by decide +kernel
theorem d_To_trait_44 : decode prog_11_method_5_code 44 = .ok (.ireturn, 1) := by decide +kernel
theorem d_To_trait_45 : decode prog_11_method_5_code 45 = .ok (.aload_n 0, 1) := by decide +kernel
theorem d_To_trait_46 : decode prog_11_method_5_code 46 = .ok (.getfield 22, 3) := by decide +kernel
theorem d_To_trait_49 : decode prog_11_method_5_code 49 = .ok (.iload_n 1, 1) := by decide +kernel
theorem d_To_trait_50 : decode prog_11_method_5_code 50 = .ok (.iaload, 1) := by decide +kernel
theorem d_To_trait_51 : decode prog_11_method_5_code 51 = .ok (.ireturn, 1) := by decide +kernel
theorem d_To_trait_52 : decode prog_11_method_5_code 52 = .ok (.iconst (-1), 1) := by decide +kernel
theorem d_To_trait_53 : decode prog_11_method_5_code 53 = .ok (.ireturn, 1) := by decide +kernel
def w_To_trait {d : Nat} (hd : 1 ≤ d) := (show SS ("DebtDoors$Town", prog_11_method_5_code, 3) (some .int) d 0 0 0 0 _ from (sSw (ts := [28, 38, 45]) (dt := 52) (rIn 2 d_To_trait_0 rfl) d_To_trait_1 (by decide) (by decide) (by decide) (zSwk_c (sRi (xE (rIa (rFr fl_To_69 nk_1_0 (rFr fl_To_12 nk_9_0 (rAn 0 d_To_trait_28 rfl) d_To_trait_29) d_To_trait_32) (rIn 1 d_To_trait_35 rfl) d_To_trait_36)) d_To_trait_37 rfl) (zSwk_c (sRi (xE (rIa (rFr fl_To_18 nk_9_1 (rAn 0 d_To_trait_38 rfl) d_To_trait_39) (rIn 1 d_To_trait_42 rfl) d_To_trait_43)) d_To_trait_44 rfl) (zSwk_c (sRi (xE (rIa (rFr fl_To_22 nk_9_2 (rAn 0 d_To_trait_45 rfl) d_To_trait_46) (rIn 1 d_To_trait_49 rfl) d_To_trait_50)) d_To_trait_51 rfl) zSwk_n))) (sRi (xE (rI d_To_trait_52 rfl)) d_To_trait_53 rfl)))
noncomputable def f_To_trait : List zV → zMem → Int
  | [.inr (.inr (.inl q0)), .inl p, .inl w], μ => if w = 0 then μ 3 p else if w = 1 then μ 8 p else if w = 2 then μ 9 p else -1
  | _, _ => 0
def g_To_trait : List zV → zMem → Prop
  | [.inr (.inr (.inl q0)), .inl p, .inl w], μ => q0 = 1 ∧ (0 ≤ p ∧ p < 7)
  | _, _ => False
theorem p_To_trait : zPu y_To_trait 1 f_To_trait g_To_trait := by
  intro as μ h
  unfold g_To_trait at h
  split at h
  · next q0 p w =>
    obtain ⟨rfl, h⟩ := h
    refine zSp.ss [vr 1, vi p, vi w] rfl (w_To_trait (Nat.le_refl _)) rfl rfl ?_
    (try simp only [zit_e, Bool.and_eq_true, Bool.or_eq_true, Bool.not_eq_true', Bool.and_eq_false_iff, Bool.or_eq_false_iff, Bool.not_eq_false', zbe, zdt, zdf, zb2_p, zbp_0, zbp_1, zbp_inj, zbp_01, Bool.true_eq_false, Bool.false_eq_true, true_and, and_true, Decidable.not_not, Classical.not_not, implies_true, List.nil_append, List.cons_append, List.append_assoc, Option.some.injEq, Sum.inl.injEq, zSw_c, zSw_n]); (try simp only [zit_e, Bool.and_eq_true, Bool.or_eq_true, Bool.not_eq_true', Bool.and_eq_false_iff, Bool.or_eq_false_iff, Bool.not_eq_false', zbe, zdt, zdf, zb2_p, zbp_0, zbp_1, zbp_inj, zbp_01, Bool.true_eq_false, Bool.false_eq_true, true_and, and_true, Decidable.not_not, Classical.not_not, implies_true, List.nil_append, List.cons_append, List.append_assoc, Option.some.injEq, Sum.inl.injEq, zSw_c, zSw_n, f_To_trait, zc_1, zc_2]); (try simp only [zi_cs, zi_c0, zii_cs, zii_c0, zl_cs, zl_c0, zll_cs, zll_c0, zr_cs, zr_c0, zrr_cs, zrr_c0, zxs_cs, zxs_c0, zxx_cs, zxx_c0, zfree_c0, zfree_c1, zfree_cs, zfree_cz, zlong_i, zlong_r, zlong_x, zset_0, zset_s, true_and, and_true, Option.some.injEq, Sum.inl.injEq, Sum.inr.injEq, zb2_p, zbp_0, zbp_1, zbp_inj, zbp_01, Nat.zero_add, Nat.reduceAdd, implies_true, List.nil_append, List.cons_append, List.append_assoc, Int.not_lt, Int.not_le, Decidable.not_not, Int.zero_add, Int.reduceLE, Int.reduceLT, Int.reduceEq, Int.reduceNe, Int.reduceAdd, Int.reduceSub, Int.reduceMul, Int.reduceNeg, Int.reduceToNat, Nat.reduceMul, Nat.reduceLT, Nat.reduceEqDiff, and_self, ite_true, ite_false, zx1, zx2, zRecv, List.length_cons, List.length_nil, ne_eq, not_true_eq_false, not_false_eq_true, true_or, or_true, or_false, false_or, and_false, false_and, zf01, zf10, reduceCtorEq, zSw_c, zSw_n, zm_r, zit_T, zit_F, false_implies, true_implies, f_To_trait, zc_1, zc_2])
    by_cases h0 : w = 0 <;> by_cases h1 : w = 1 <;> by_cases h2 : w = 2 <;> simp [h0, h1, h2, zit] <;> omega
  · exact h.elim
def y_Le_canPay : zMt := (⟨"DebtDoors$Ledger", "canPay", "(III)Z"⟩, prog_3_method_9_code, 4, some .boolean)
theorem d_Le_canPay_0 : decode prog_3_method_9_code 0 = .ok (.aload_n 0, 1) := by decide +kernel
theorem d_Le_canPay_1 : decode prog_3_method_9_code 1 = .ok (.getfield 9, 3) := by decide +kernel
theorem d_Le_canPay_4 : decode prog_3_method_9_code 4 = .ok (.iload_n 1, 1) := by decide +kernel
theorem d_Le_canPay_5 : decode prog_3_method_9_code 5 = .ok (.iaload, 1) := by decide +kernel
theorem d_Le_canPay_6 : decode prog_3_method_9_code 6 = .ok (.iload_n 3, 1) := by decide +kernel
theorem d_Le_canPay_7 : decode prog_3_method_9_code 7 = .ok (.if_icmp .lt 21, 3) := by decide +kernel
theorem d_Le_canPay_10 : decode prog_3_method_9_code 10 = .ok (.aload_n 0, 1) := by decide +kernel
theorem d_Le_canPay_11 : decode prog_3_method_9_code 11 = .ok (.getfield 9, 3) := by decide +kernel
theorem d_Le_canPay_14 : decode prog_3_method_9_code 14 = .ok (.iload_n 2, 1) := by decide +kernel
theorem d_Le_canPay_15 : decode prog_3_method_9_code 15 = .ok (.iaload, 1) := by decide +kernel
theorem d_Le_canPay_16 : decode prog_3_method_9_code 16 = .ok (.iload_n 3, 1) := by decide +kernel
theorem d_Le_canPay_17 : decode prog_3_method_9_code 17 = .ok (.iadd, 1) := by decide +kernel
theorem d_Le_canPay_18 : decode prog_3_method_9_code 18 = .ok (.sipush 9999, 3) := by decide +kernel
theorem d_Le_canPay_21 : decode prog_3_method_9_code 21 = .ok (.if_icmp .gt 7, 3) := by decide +kernel
theorem d_Le_canPay_24 : decode prog_3_method_9_code 24 = .ok (.iconst 1, 1) := by decide +kernel
theorem d_Le_canPay_25 : decode prog_3_method_9_code 25 = .ok (.goto 4, 3) := by decide +kernel
theorem d_Le_canPay_28 : decode prog_3_method_9_code 28 = .ok (.iconst 0, 1) := by decide +kernel
theorem d_Le_canPay_29 : decode prog_3_method_9_code 29 = .ok (.ireturn, 1) := by decide +kernel
def w_Le_canPay {d : Nat} (hd : 1 ≤ d) := (show SS ("DebtDoors$Ledger", prog_3_method_9_code, 4) (some .boolean) d 0 0 0 0 _ from (sRz (xE (rTb (rAnd (mm := 10) (rNot (rJ2 (tgt := 28) j_lt (rIa (rFr fl_Le_9 nk_1_0 (rAn 0 d_Le_canPay_0 rfl) d_Le_canPay_1) (rIn 1 d_Le_canPay_4 rfl) d_Le_canPay_5) (rIn 3 d_Le_canPay_6 rfl) d_Le_canPay_7 (by decide))) (rNot (rJ2 (tgt := 28) j_gt (r2 o_add (rIa (rFr fl_Le_9 nk_1_0 (rAn 0 d_Le_canPay_10 rfl) d_Le_canPay_11) (rIn 2 d_Le_canPay_14 rfl) d_Le_canPay_15) (rIn 3 d_Le_canPay_16 rfl) d_Le_canPay_17) (rSi d_Le_canPay_18 rfl) d_Le_canPay_21 (by decide)))) (rGoE (p2 := 29) (rI d_Le_canPay_24 rfl) d_Le_canPay_25 (by decide)) (rI d_Le_canPay_28 rfl))) d_Le_canPay_29 rfl))
noncomputable def f_Le_canPay : List zV → zMem → Int
  | [.inr (.inr (.inl q0)), .inl a, .inl b, .inl m], μ => zbp (m ≤ μ 3 a ∧ μ 3 b + m ≤ 9999)
  | _, _ => 0
def g_Le_canPay : List zV → zMem → Prop
  | [.inr (.inr (.inl q0)), .inl a, .inl b, .inl m], μ => q0 = 2 ∧ ((0 ≤ a ∧ a < 7) ∧ (0 ≤ b ∧ b < 7) ∧ (0 ≤ μ 3 b ∧ μ 3 b ≤ 9999) ∧ -1000000 ≤ m ∧ m ≤ 1000000)
  | _, _ => False
theorem p_Le_canPay : zPu y_Le_canPay 1 f_Le_canPay g_Le_canPay := by
  intro as μ h
  unfold g_Le_canPay at h
  split at h
  · next q0 a b m =>
    obtain ⟨rfl, h⟩ := h
    refine zSp.ss [vr 2, vi a, vi b, vi m] rfl (w_Le_canPay (Nat.le_refl _)) rfl rfl ?_
    (try simp only [zit_e, Bool.and_eq_true, Bool.or_eq_true, Bool.not_eq_true', Bool.and_eq_false_iff, Bool.or_eq_false_iff, Bool.not_eq_false', zbe, zdt, zdf, zb2_p, zbp_0, zbp_1, zbp_inj, zbp_01, Bool.true_eq_false, Bool.false_eq_true, true_and, and_true, Decidable.not_not, Classical.not_not, implies_true, List.nil_append, List.cons_append, List.append_assoc, Option.some.injEq, Sum.inl.injEq, zSw_c, zSw_n]); (try simp only [zit_e, Bool.and_eq_true, Bool.or_eq_true, Bool.not_eq_true', Bool.and_eq_false_iff, Bool.or_eq_false_iff, Bool.not_eq_false', zbe, zdt, zdf, zb2_p, zbp_0, zbp_1, zbp_inj, zbp_01, Bool.true_eq_false, Bool.false_eq_true, true_and, and_true, Decidable.not_not, Classical.not_not, implies_true, List.nil_append, List.cons_append, List.append_assoc, Option.some.injEq, Sum.inl.injEq, zSw_c, zSw_n, f_Le_canPay, zc_2]); (try simp only [zi_cs, zi_c0, zii_cs, zii_c0, zl_cs, zl_c0, zll_cs, zll_c0, zr_cs, zr_c0, zrr_cs, zrr_c0, zxs_cs, zxs_c0, zxx_cs, zxx_c0, zfree_c0, zfree_c1, zfree_cs, zfree_cz, zlong_i, zlong_r, zlong_x, zset_0, zset_s, true_and, and_true, Option.some.injEq, Sum.inl.injEq, Sum.inr.injEq, zb2_p, zbp_0, zbp_1, zbp_inj, zbp_01, Nat.zero_add, Nat.reduceAdd, implies_true, List.nil_append, List.cons_append, List.append_assoc, Int.not_lt, Int.not_le, Decidable.not_not, Int.zero_add, Int.reduceLE, Int.reduceLT, Int.reduceEq, Int.reduceNe, Int.reduceAdd, Int.reduceSub, Int.reduceMul, Int.reduceNeg, Int.reduceToNat, Nat.reduceMul, Nat.reduceLT, Nat.reduceEqDiff, and_self, ite_true, ite_false, zx1, zx2, zRecv, List.length_cons, List.length_nil, ne_eq, not_true_eq_false, not_false_eq_true, true_or, or_true, or_false, false_or, and_false, false_and, zf01, zf10, reduceCtorEq, zSw_c, zSw_n, zm_r, zit_T, zit_F, false_implies, true_implies, f_Le_canPay, zc_2])
    ((try simp only [zI_e]); (first | done | omega | skip))
  · exact h.elim
theorem fl_Re_51 : zFl "DebtDoors$Reader" 51 6 7 := ⟨_, rfl, by decide, (zTb_in 334 (by decide +kernel) (by decide +kernel)), rfl⟩
theorem nk_6_7 : zNk 6 7 = some 0 := rfl
theorem nk_6_0 : zNk 6 0 = none := rfl
theorem fl_Re_58 : zFl "DebtDoors$Reader" 58 6 8 := ⟨_, rfl, by decide, (zTb_in 335 (by decide +kernel) (by decide +kernel)), rfl⟩
theorem nk_6_8 : zNk 6 8 = some 0 := rfl
def y_Re_isSign : zMt := (⟨"DebtDoors$Reader", "isSign", "(I)Z"⟩, prog_8_method_6_code, 2, some .boolean)
theorem d_Re_isSign_0 : decode prog_8_method_6_code 0 = .ok (.aload_n 0, 1) := by decide +kernel
theorem d_Re_isSign_1 : decode prog_8_method_6_code 1 = .ok (.getfield 51, 3) := by decide +kernel
theorem d_Re_isSign_4 : decode prog_8_method_6_code 4 = .ok (.iconst 3, 1) := by decide +kernel
theorem d_Re_isSign_5 : decode prog_8_method_6_code 5 = .ok (.if_icmp .ne 20, 3) := by decide +kernel
theorem d_Re_isSign_8 : decode prog_8_method_6_code 8 = .ok (.aload_n 0, 1) := by decide +kernel
theorem d_Re_isSign_9 : decode prog_8_method_6_code 9 = .ok (.getfield 9, 3) := by decide +kernel
theorem d_Re_isSign_12 : decode prog_8_method_6_code 12 = .ok (.aload_n 0, 1) := by decide +kernel
theorem d_Re_isSign_13 : decode prog_8_method_6_code 13 = .ok (.getfield 58, 3) := by decide +kernel
theorem d_Re_isSign_16 : decode prog_8_method_6_code 16 = .ok (.iaload, 1) := by decide +kernel
theorem d_Re_isSign_17 : decode prog_8_method_6_code 17 = .ok (.iload_n 1, 1) := by decide +kernel
theorem d_Re_isSign_18 : decode prog_8_method_6_code 18 = .ok (.if_icmp .ne 7, 3) := by decide +kernel
theorem d_Re_isSign_21 : decode prog_8_method_6_code 21 = .ok (.iconst 1, 1) := by decide +kernel
theorem d_Re_isSign_22 : decode prog_8_method_6_code 22 = .ok (.goto 4, 3) := by decide +kernel
theorem d_Re_isSign_25 : decode prog_8_method_6_code 25 = .ok (.iconst 0, 1) := by decide +kernel
theorem d_Re_isSign_26 : decode prog_8_method_6_code 26 = .ok (.ireturn, 1) := by decide +kernel
def w_Re_isSign {d : Nat} (hd : 1 ≤ d) := (show SS ("DebtDoors$Reader", prog_8_method_6_code, 2) (some .boolean) d 0 0 0 0 _ from (sRz (xE (rTb (rAnd (mm := 8) (rNot (rJ2 (tgt := 25) j_ne (rF 7 fl_Re_51 nk_6_7 (rAn 0 d_Re_isSign_0 rfl) d_Re_isSign_1 rfl) (rI d_Re_isSign_4 rfl) d_Re_isSign_5 (by decide))) (rNot (rJ2 (tgt := 25) j_ne (rIa (rFr fl_Re_9 nk_6_0 (rAn 0 d_Re_isSign_8 rfl) d_Re_isSign_9) (rF 8 fl_Re_58 nk_6_8 (rAn 0 d_Re_isSign_12 rfl) d_Re_isSign_13 rfl) d_Re_isSign_16) (rIn 1 d_Re_isSign_17 rfl) d_Re_isSign_18 (by decide)))) (rGoE (p2 := 26) (rI d_Re_isSign_21 rfl) d_Re_isSign_22 (by decide)) (rI d_Re_isSign_25 rfl))) d_Re_isSign_26 rfl))
noncomputable def f_Re_isSign : List zV → zMem → Int
  | [.inr (.inr (.inl q0)), .inl s], μ => zbp (μ 321 7 = 3 ∧ μ 322 (μ 321 8) = s)
  | _, _ => 0
def g_Re_isSign : List zV → zMem → Prop
  | [.inr (.inr (.inl q0)), .inl s], μ => q0 = 321 ∧ (μ 321 7 = 3 → 0 ≤ μ 321 8 ∧ μ 321 8 < 400)
  | _, _ => False
theorem p_Re_isSign : zPu y_Re_isSign 1 f_Re_isSign g_Re_isSign := by
  intro as μ h
  unfold g_Re_isSign at h
  split at h
  · next q0 s =>
    obtain ⟨rfl, h⟩ := h
    refine zSp.ss [vr 321, vi s] rfl (w_Re_isSign (Nat.le_refl _)) rfl rfl ?_
    (try simp only [zit_e, Bool.and_eq_true, Bool.or_eq_true, Bool.not_eq_true', Bool.and_eq_false_iff, Bool.or_eq_false_iff, Bool.not_eq_false', zbe, zdt, zdf, zb2_p, zbp_0, zbp_1, zbp_inj, zbp_01, Bool.true_eq_false, Bool.false_eq_true, true_and, and_true, Decidable.not_not, Classical.not_not, implies_true, List.nil_append, List.cons_append, List.append_assoc, Option.some.injEq, Sum.inl.injEq, zSw_c, zSw_n]); (try simp only [zit_e, Bool.and_eq_true, Bool.or_eq_true, Bool.not_eq_true', Bool.and_eq_false_iff, Bool.or_eq_false_iff, Bool.not_eq_false', zbe, zdt, zdf, zb2_p, zbp_0, zbp_1, zbp_inj, zbp_01, Bool.true_eq_false, Bool.false_eq_true, true_and, and_true, Decidable.not_not, Classical.not_not, implies_true, List.nil_append, List.cons_append, List.append_assoc, Option.some.injEq, Sum.inl.injEq, zSw_c, zSw_n, f_Re_isSign, zc_321]); (try simp only [zi_cs, zi_c0, zii_cs, zii_c0, zl_cs, zl_c0, zll_cs, zll_c0, zr_cs, zr_c0, zrr_cs, zrr_c0, zxs_cs, zxs_c0, zxx_cs, zxx_c0, zfree_c0, zfree_c1, zfree_cs, zfree_cz, zlong_i, zlong_r, zlong_x, zset_0, zset_s, true_and, and_true, Option.some.injEq, Sum.inl.injEq, Sum.inr.injEq, zb2_p, zbp_0, zbp_1, zbp_inj, zbp_01, Nat.zero_add, Nat.reduceAdd, implies_true, List.nil_append, List.cons_append, List.append_assoc, Int.not_lt, Int.not_le, Decidable.not_not, Int.zero_add, Int.reduceLE, Int.reduceLT, Int.reduceEq, Int.reduceNe, Int.reduceAdd, Int.reduceSub, Int.reduceMul, Int.reduceNeg, Int.reduceToNat, Nat.reduceMul, Nat.reduceLT, Nat.reduceEqDiff, and_self, ite_true, ite_false, zx1, zx2, zRecv, List.length_cons, List.length_nil, ne_eq, not_true_eq_false, not_false_eq_true, true_or, or_true, or_false, false_or, and_false, false_and, zf01, zf10, reduceCtorEq, zSw_c, zSw_n, zm_r, zit_T, zit_F, false_implies, true_implies, f_Re_isSign, zc_321])
    ((try simp only [zI_e]); (first | done | omega | skip))
  · exact h.elim
theorem fl_Un_22 : zFl "DebtDoors$Undo" 22 10 2 := ⟨_, rfl, by decide, (zTb_in 304 (by decide +kernel) (by decide +kernel)), rfl⟩
theorem nk_10_2 : zNk 10 2 = some 0 := rfl
def y_Un_slot : zMt := (⟨"DebtDoors$Undo", "slot", "(I)I"⟩, prog_12_method_2_code, 2, some .int)
theorem d_Un_slot_0 : decode prog_12_method_2_code 0 = .ok (.aload_n 0, 1) := by decide +kernel
theorem d_Un_slot_1 : decode prog_12_method_2_code 1 = .ok (.getfield 22, 3) := by decide +kernel
theorem d_Un_slot_4 : decode prog_12_method_2_code 4 = .ok (.iload_n 1, 1) := by decide +kernel
theorem d_Un_slot_5 : decode prog_12_method_2_code 5 = .ok (.iadd, 1) := by decide +kernel
theorem d_Un_slot_6 : decode prog_12_method_2_code 6 = .ok (.bipush 17, 2) := by decide +kernel
theorem d_Un_slot_8 : decode prog_12_method_2_code 8 = .ok (.irem, 1) := by decide +kernel
theorem d_Un_slot_9 : decode prog_12_method_2_code 9 = .ok (.ireturn, 1) := by decide +kernel
def w_Un_slot {d : Nat} (hd : 1 ≤ d) := (show SS ("DebtDoors$Undo", prog_12_method_2_code, 2) (some .int) d 0 0 0 0 _ from (sRi (xE (r2 o_rem (r2 o_add (rF 2 fl_Un_22 nk_10_2 (rAn 0 d_Un_slot_0 rfl) d_Un_slot_1 rfl) (rIn 1 d_Un_slot_4 rfl) d_Un_slot_5) (rB d_Un_slot_6 rfl) d_Un_slot_8)) d_Un_slot_9 rfl))
noncomputable def f_Un_slot : List zV → zMem → Int
  | [.inr (.inr (.inl R0)), .inl i], μ => (μ R0 2 + i).tmod 17
  | _, _ => 0
def g_Un_slot : List zV → zMem → Prop
  | [.inr (.inr (.inl R0)), .inl i], μ => (zO 10 R0 = true ∧ (0 ≤ μ R0 2 ∧ μ R0 2 ≤ 100) ∧ 0 ≤ i ∧ i ≤ 100)
  | _, _ => False
theorem p_Un_slot : zPu y_Un_slot 1 f_Un_slot g_Un_slot := by
  intro as μ h
  unfold g_Un_slot at h
  split at h
  · next R0 i =>
    refine zSp.ss [vr R0, vi i] rfl (w_Un_slot (Nat.le_refl _)) rfl rfl ?_
    (try simp only [zit_e, Bool.and_eq_true, Bool.or_eq_true, Bool.not_eq_true', Bool.and_eq_false_iff, Bool.or_eq_false_iff, Bool.not_eq_false', zbe, zdt, zdf, zb2_p, zbp_0, zbp_1, zbp_inj, zbp_01, Bool.true_eq_false, Bool.false_eq_true, true_and, and_true, Decidable.not_not, Classical.not_not, implies_true, List.nil_append, List.cons_append, List.append_assoc, Option.some.injEq, Sum.inl.injEq, zSw_c, zSw_n]); (try simp only [zit_e, Bool.and_eq_true, Bool.or_eq_true, Bool.not_eq_true', Bool.and_eq_false_iff, Bool.or_eq_false_iff, Bool.not_eq_false', zbe, zdt, zdf, zb2_p, zbp_0, zbp_1, zbp_inj, zbp_01, Bool.true_eq_false, Bool.false_eq_true, true_and, and_true, Decidable.not_not, Classical.not_not, implies_true, List.nil_append, List.cons_append, List.append_assoc, Option.some.injEq, Sum.inl.injEq, zSw_c, zSw_n, f_Un_slot]); (try simp only [zi_cs, zi_c0, zii_cs, zii_c0, zl_cs, zl_c0, zll_cs, zll_c0, zr_cs, zr_c0, zrr_cs, zrr_c0, zxs_cs, zxs_c0, zxx_cs, zxx_c0, zfree_c0, zfree_c1, zfree_cs, zfree_cz, zlong_i, zlong_r, zlong_x, zset_0, zset_s, true_and, and_true, Option.some.injEq, Sum.inl.injEq, Sum.inr.injEq, zb2_p, zbp_0, zbp_1, zbp_inj, zbp_01, Nat.zero_add, Nat.reduceAdd, implies_true, List.nil_append, List.cons_append, List.append_assoc, Int.not_lt, Int.not_le, Decidable.not_not, Int.zero_add, Int.reduceLE, Int.reduceLT, Int.reduceEq, Int.reduceNe, Int.reduceAdd, Int.reduceSub, Int.reduceMul, Int.reduceNeg, Int.reduceToNat, Nat.reduceMul, Nat.reduceLT, Nat.reduceEqDiff, and_self, ite_true, ite_false, zx1, zx2, zRecv, List.length_cons, List.length_nil, ne_eq, not_true_eq_false, not_false_eq_true, true_or, or_true, or_false, false_or, and_false, false_and, zf01, zf10, reduceCtorEq, zSw_c, zSw_n, zm_r, zit_T, zit_F, false_implies, true_implies, f_Un_slot])
    exact ⟨h.1, by ((try simp only [zI_e]); (first | done | omega | skip))⟩
  · exact h.elim
theorem m_D_between : Cond.static y_D_between.1 ∈ zTb ∧ Cond.initialized y_D_between.1.cls ∈ zTb ∧ Cond.code y_D_between.1 y_D_between.2.1 y_D_between.2.2.1 y_D_between.2.2.2 ∈ zTb ∧ (y_D_between.1.cls ≠ "java/lang/invoke/MethodHandle" ∧ y_D_between.1.cls ≠ "java/lang/invoke/VarHandle" ∧ (parseMethodDescriptor y_D_between.1.desc).map (fun d => d.parameters.length) = some 3) ∧ y_D_between.2.2.1 ≤ 20 :=
  ⟨(zTb_in 600 (by decide +kernel) (by decide +kernel)), (zTb_in 139 (by decide +kernel) (by decide +kernel)), (zTb_in 601 (by decide +kernel) (by decide +kernel)), by decide +kernel, by decide +kernel⟩
theorem ls_D_104 : zLs "DebtDoors" 104 y_D_between 3 := Or.inl ⟨(zTb_in 599 (by decide +kernel) (by decide +kernel)), m_D_between⟩
def y_D_canPut : zMt := (⟨"DebtDoors", "canPut", "(II)Z"⟩, prog_1_method_4_code, 2, some .boolean)
theorem d_D_canPut_0 : decode prog_1_method_4_code 0 = .ok (.iload_n 0, 1) := by decide +kernel
theorem d_D_canPut_1 : decode prog_1_method_4_code 1 = .ok (.tableswitch 51 0 2 #[27, 36, 43], 27) := by decide +kernel
theorem d_D_canPut_28 : decode prog_1_method_4_code 28 = .ok (.iload_n 1, 1) := by decide +kernel
theorem d_D_canPut_29 : decode prog_1_method_4_code 29 = .ok (.iconst 0, 1) := by decide +kernel
theorem d_D_canPut_30 : decode prog_1_method_4_code 30 = .ok (.sipush 9999, 3) := by decide +kernel
theorem d_D_canPut_33 : decode prog_1_method_4_code 33 = .ok (.invokestatic 104, 3) := by decide +kernel
theorem d_D_canPut_36 : decode prog_1_method_4_code 36 = .ok (.ireturn, 1) := by decide +kernel
theorem d_D_canPut_37 : decode prog_1_method_4_code 37 = .ok (.iload_n 1, 1) := by decide +kernel
theorem d_D_canPut_38 : decode prog_1_method_4_code 38 = .ok (.iconst 1, 1) := by decide +kernel
theorem d_D_canPut_39 : decode prog_1_method_4_code 39 = .ok (.iconst 3, 1) := by decide +kernel
theorem d_D_canPut_40 : decode prog_1_method_4_code 40 = .ok (.invokestatic 104, 3) := by decide +kernel
theorem d_D_canPut_43 : decode prog_1_method_4_code 43 = .ok (.ireturn, 1) := by decide +kernel
theorem d_D_canPut_44 : decode prog_1_method_4_code 44 = .ok (.iload_n 1, 1) := by decide +kernel
theorem d_D_canPut_45 : decode prog_1_method_4_code 45 = .ok (.iconst 0, 1) := by decide +kernel
theorem d_D_canPut_46 : decode prog_1_method_4_code 46 = .ok (.bipush 99, 2) := by decide +kernel
theorem d_D_canPut_48 : decode prog_1_method_4_code 48 = .ok (.invokestatic 104, 3) := by decide +kernel
theorem d_D_canPut_51 : decode prog_1_method_4_code 51 = .ok (.ireturn, 1) := by decide +kernel
theorem d_D_canPut_52 : decode prog_1_method_4_code 52 = .ok (.iconst 0, 1) := by decide +kernel
theorem d_D_canPut_53 : decode prog_1_method_4_code 53 = .ok (.ireturn, 1) := by decide +kernel
def w_D_canPut {d : Nat} (hd : 2 ≤ d) := (show SS ("DebtDoors", prog_1_method_4_code, 2) (some .boolean) d 0 0 0 0 _ from (sSw (ts := [28, 37, 44]) (dt := 52) (rIn 0 d_D_canPut_0 rfl) d_D_canPut_1 (by decide) (by decide) (by decide) (zSwk_c (sRz (xE (rS p_D_between (Nat.le_trans (Nat.le_of_ble_eq_true rfl) hd) ls_D_104 (rAi (rAi (rAi rA0 (rIn 1 d_D_canPut_28 rfl)) (rI d_D_canPut_29 rfl)) (rSi d_D_canPut_30 rfl)) (by decide) d_D_canPut_33)) d_D_canPut_36 rfl) (zSwk_c (sRz (xE (rS p_D_between (Nat.le_trans (Nat.le_of_ble_eq_true rfl) hd) ls_D_104 (rAi (rAi (rAi rA0 (rIn 1 d_D_canPut_37 rfl)) (rI d_D_canPut_38 rfl)) (rI d_D_canPut_39 rfl)) (by decide) d_D_canPut_40)) d_D_canPut_43 rfl) (zSwk_c (sRz (xE (rS p_D_between (Nat.le_trans (Nat.le_of_ble_eq_true rfl) hd) ls_D_104 (rAi (rAi (rAi rA0 (rIn 1 d_D_canPut_44 rfl)) (rI d_D_canPut_45 rfl)) (rB d_D_canPut_46 rfl)) (by decide) d_D_canPut_48)) d_D_canPut_51 rfl) zSwk_n))) (sRz (xE (rI d_D_canPut_52 rfl)) d_D_canPut_53 rfl)))
noncomputable def f_D_canPut : List zV → zMem → Int
  | [.inl w, .inl v], μ => zbp (w = 0 ∧ (0 ≤ v ∧ v ≤ 9999) ∨ w = 1 ∧ (1 ≤ v ∧ v ≤ 3) ∨ w = 2 ∧ (0 ≤ v ∧ v ≤ 99))
  | _, _ => 0
def g_D_canPut : List zV → zMem → Prop
  | [.inl w, .inl v], μ => (True)
  | _, _ => False
theorem p_D_canPut : zPu y_D_canPut 2 f_D_canPut g_D_canPut := by
  intro as μ h
  unfold g_D_canPut at h
  split at h
  · next w v =>
    refine zSp.ss [vi w, vi v] rfl (w_D_canPut (Nat.le_refl _)) rfl rfl ?_
    (try simp only [zit_e, Bool.and_eq_true, Bool.or_eq_true, Bool.not_eq_true', Bool.and_eq_false_iff, Bool.or_eq_false_iff, Bool.not_eq_false', zbe, zdt, zdf, zb2_p, zbp_0, zbp_1, zbp_inj, zbp_01, Bool.true_eq_false, Bool.false_eq_true, true_and, and_true, Decidable.not_not, Classical.not_not, implies_true, List.nil_append, List.cons_append, List.append_assoc, Option.some.injEq, Sum.inl.injEq, zSw_c, zSw_n]); (try simp only [zit_e, Bool.and_eq_true, Bool.or_eq_true, Bool.not_eq_true', Bool.and_eq_false_iff, Bool.or_eq_false_iff, Bool.not_eq_false', zbe, zdt, zdf, zb2_p, zbp_0, zbp_1, zbp_inj, zbp_01, Bool.true_eq_false, Bool.false_eq_true, true_and, and_true, Decidable.not_not, Classical.not_not, implies_true, List.nil_append, List.cons_append, List.append_assoc, Option.some.injEq, Sum.inl.injEq, zSw_c, zSw_n, f_D_canPut, f_D_between, g_D_between]); (try simp only [zi_cs, zi_c0, zii_cs, zii_c0, zl_cs, zl_c0, zll_cs, zll_c0, zr_cs, zr_c0, zrr_cs, zrr_c0, zxs_cs, zxs_c0, zxx_cs, zxx_c0, zfree_c0, zfree_c1, zfree_cs, zfree_cz, zlong_i, zlong_r, zlong_x, zset_0, zset_s, true_and, and_true, Option.some.injEq, Sum.inl.injEq, Sum.inr.injEq, zb2_p, zbp_0, zbp_1, zbp_inj, zbp_01, Nat.zero_add, Nat.reduceAdd, implies_true, List.nil_append, List.cons_append, List.append_assoc, Int.not_lt, Int.not_le, Decidable.not_not, Int.zero_add, Int.reduceLE, Int.reduceLT, Int.reduceEq, Int.reduceNe, Int.reduceAdd, Int.reduceSub, Int.reduceMul, Int.reduceNeg, Int.reduceToNat, Nat.reduceMul, Nat.reduceLT, Nat.reduceEqDiff, and_self, ite_true, ite_false, zx1, zx2, zRecv, List.length_cons, List.length_nil, ne_eq, not_true_eq_false, not_false_eq_true, true_or, or_true, or_false, false_or, and_false, false_and, zf01, zf10, reduceCtorEq, zSw_c, zSw_n, zm_r, zit_T, zit_F, false_implies, true_implies, f_D_canPut, f_D_between, g_D_between])
    by_cases h0 : w = 0 <;> by_cases h1 : w = 1 <;> by_cases h2 : w = 2 <;> simp [h0, h1, h2, zit, zbp_0, zbp_1, zbp_inj, zbp_F, zbp_T] <;> omega
  · exact h.elim
theorem km_D_434 : Cond.methodLink "DebtDoors" 434 Lib.Math.max.name ∈ zTb := (zTb_in 699 (by decide +kernel) (by decide +kernel))
theorem km_D_326 : Cond.methodLink "DebtDoors" 326 Lib.Math.min.name ∈ zTb := (zTb_in 696 (by decide +kernel) (by decide +kernel))
def y_D_nearest : zMt := (⟨"DebtDoors", "nearest", "(III)I"⟩, prog_1_method_70_code, 3, some .int)
theorem d_D_nearest_0 : decode prog_1_method_70_code 0 = .ok (.iload_n 1, 1) := by decide +kernel
theorem d_D_nearest_1 : decode prog_1_method_70_code 1 = .ok (.iload_n 2, 1) := by decide +kernel
theorem d_D_nearest_2 : decode prog_1_method_70_code 2 = .ok (.iload_n 0, 1) := by decide +kernel
theorem d_D_nearest_3 : decode prog_1_method_70_code 3 = .ok (.invokestatic 326, 3) := by decide +kernel
theorem d_D_nearest_6 : decode prog_1_method_70_code 6 = .ok (.invokestatic 434, 3) := by decide +kernel
theorem d_D_nearest_9 : decode prog_1_method_70_code 9 = .ok (.ireturn, 1) := by decide +kernel
def w_D_nearest {d : Nat} (hd : 3 ≤ d) := (show SS ("DebtDoors", prog_1_method_70_code, 3) (some .int) d 0 0 0 0 _ from (sRi (xE (rMax km_D_434 (rIn 1 d_D_nearest_0 rfl) (rMin km_D_326 (rIn 2 d_D_nearest_1 rfl) (rIn 0 d_D_nearest_2 rfl) (by decide) (Nat.le_trans (Nat.le_of_ble_eq_true rfl) hd) d_D_nearest_3) (by decide) (Nat.le_trans (Nat.le_of_ble_eq_true rfl) hd) d_D_nearest_6)) d_D_nearest_9 rfl))
noncomputable def f_D_nearest : List zV → zMem → Int
  | [.inl v, .inl a, .inl b], μ => max a (min b v)
  | _, _ => 0
def g_D_nearest : List zV → zMem → Prop
  | [.inl v, .inl a, .inl b], μ => (True)
  | _, _ => False
theorem p_D_nearest : zPu y_D_nearest 3 f_D_nearest g_D_nearest := by
  intro as μ h
  unfold g_D_nearest at h
  split at h
  · next v a b =>
    refine zSp.ss [vi v, vi a, vi b] rfl (w_D_nearest (Nat.le_refl _)) rfl rfl ?_
    (try simp only [zit_e, Bool.and_eq_true, Bool.or_eq_true, Bool.not_eq_true', Bool.and_eq_false_iff, Bool.or_eq_false_iff, Bool.not_eq_false', zbe, zdt, zdf, zb2_p, zbp_0, zbp_1, zbp_inj, zbp_01, Bool.true_eq_false, Bool.false_eq_true, true_and, and_true, Decidable.not_not, Classical.not_not, implies_true, List.nil_append, List.cons_append, List.append_assoc, Option.some.injEq, Sum.inl.injEq, zSw_c, zSw_n]); (try simp only [zit_e, Bool.and_eq_true, Bool.or_eq_true, Bool.not_eq_true', Bool.and_eq_false_iff, Bool.or_eq_false_iff, Bool.not_eq_false', zbe, zdt, zdf, zb2_p, zbp_0, zbp_1, zbp_inj, zbp_01, Bool.true_eq_false, Bool.false_eq_true, true_and, and_true, Decidable.not_not, Classical.not_not, implies_true, List.nil_append, List.cons_append, List.append_assoc, Option.some.injEq, Sum.inl.injEq, zSw_c, zSw_n, f_D_nearest]); (try simp only [zi_cs, zi_c0, zii_cs, zii_c0, zl_cs, zl_c0, zll_cs, zll_c0, zr_cs, zr_c0, zrr_cs, zrr_c0, zxs_cs, zxs_c0, zxx_cs, zxx_c0, zfree_c0, zfree_c1, zfree_cs, zfree_cz, zlong_i, zlong_r, zlong_x, zset_0, zset_s, true_and, and_true, Option.some.injEq, Sum.inl.injEq, Sum.inr.injEq, zb2_p, zbp_0, zbp_1, zbp_inj, zbp_01, Nat.zero_add, Nat.reduceAdd, implies_true, List.nil_append, List.cons_append, List.append_assoc, Int.not_lt, Int.not_le, Decidable.not_not, Int.zero_add, Int.reduceLE, Int.reduceLT, Int.reduceEq, Int.reduceNe, Int.reduceAdd, Int.reduceSub, Int.reduceMul, Int.reduceNeg, Int.reduceToNat, Nat.reduceMul, Nat.reduceLT, Nat.reduceEqDiff, and_self, ite_true, ite_false, zx1, zx2, zRecv, List.length_cons, List.length_nil, ne_eq, not_true_eq_false, not_false_eq_true, true_or, or_true, or_false, false_or, and_false, false_and, zf01, zf10, reduceCtorEq, zSw_c, zSw_n, zm_r, zit_T, zit_F, false_implies, true_implies, f_D_nearest])
    ((try simp only [zI_e]); (first | done | omega | skip))
  · exact h.elim
theorem m_M_lies : Cond.static y_M_lies.1 ∈ zTb ∧ Cond.initialized y_M_lies.1.cls ∈ zTb ∧ Cond.code y_M_lies.1 y_M_lies.2.1 y_M_lies.2.2.1 y_M_lies.2.2.2 ∈ zTb ∧ (y_M_lies.1.cls ≠ "java/lang/invoke/MethodHandle" ∧ y_M_lies.1.cls ≠ "java/lang/invoke/VarHandle" ∧ (parseMethodDescriptor y_M_lies.1.desc).map (fun d => d.parameters.length) = some 3) ∧ y_M_lies.2.2.1 ≤ 20 :=
  ⟨(zTb_in 1516 (by decide +kernel) (by decide +kernel)), (zTb_in 151 (by decide +kernel) (by decide +kernel)), (zTb_in 1517 (by decide +kernel) (by decide +kernel)), by decide +kernel, by decide +kernel⟩
theorem ls_M_123 : zLs "DebtDoorsModel" 123 y_M_lies 3 := Or.inl ⟨(zTb_in 1515 (by decide +kernel) (by decide +kernel)), m_M_lies⟩
theorem m_M_people : Cond.instanceMethod y_M_people.1 ∈ zTb ∧ Cond.selects y_M_people.1.cls y_M_people.1 y_M_people.1 ∈ zTb ∧ Cond.initialized y_M_people.1.cls ∈ zTb ∧ Cond.code y_M_people.1 y_M_people.2.1 y_M_people.2.2.1 y_M_people.2.2.2 ∈ zTb ∧ (y_M_people.1.cls ≠ "java/lang/invoke/MethodHandle" ∧ y_M_people.1.cls ≠ "java/lang/invoke/VarHandle" ∧ (parseMethodDescriptor y_M_people.1.desc).map (fun d => d.parameters.length) = some 0) ∧ y_M_people.2.2.1 ≤ 20 :=
  ⟨(zTb_in 1546 (by decide +kernel) (by decide +kernel)), (List.mem_filter.mpr ⟨List.mem_append_left _ (by decide +kernel), by decide +kernel⟩), (zTb_in 151 (by decide +kernel) (by decide +kernel)), (zTb_in 1547 (by decide +kernel) (by decide +kernel)), by decide +kernel, by decide +kernel⟩
theorem lv_M_133 : zLv "DebtDoorsModel" 133 y_M_people 0 12 := ⟨⟨(zTb_in 1544 (by decide +kernel) (by decide +kernel)), m_M_people.1, m_M_people.2.1, m_M_people.2.2⟩, _, rfl, rfl⟩
def y_M_isPerson : zMt := (⟨"DebtDoorsModel", "isPerson", "(I)Z"⟩, prog_14_method_15_code, 2, some .boolean)
theorem d_M_isPerson_0 : decode prog_14_method_15_code 0 = .ok (.iload_n 1, 1) := by decide +kernel
theorem d_M_isPerson_1 : decode prog_14_method_15_code 1 = .ok (.iconst 0, 1) := by decide +kernel
theorem d_M_isPerson_2 : decode prog_14_method_15_code 2 = .ok (.aload_n 0, 1) := by decide +kernel
theorem d_M_isPerson_3 : decode prog_14_method_15_code 3 = .ok (.invokevirtual 133, 3) := by decide +kernel
theorem d_M_isPerson_6 : decode prog_14_method_15_code 6 = .ok (.iconst 1, 1) := by decide +kernel
theorem d_M_isPerson_7 : decode prog_14_method_15_code 7 = .ok (.isub, 1) := by decide +kernel
theorem d_M_isPerson_8 : decode prog_14_method_15_code 8 = .ok (.invokestatic 123, 3) := by decide +kernel
theorem d_M_isPerson_11 : decode prog_14_method_15_code 11 = .ok (.ireturn, 1) := by decide +kernel
def w_M_isPerson {d : Nat} (hd : 2 ≤ d) := (show SS ("DebtDoorsModel", prog_14_method_15_code, 2) (some .boolean) d 0 0 0 0 _ from (sRz (xE (rS p_M_lies (Nat.le_trans (Nat.le_of_ble_eq_true rfl) hd) ls_M_123 (rAi (rAi (rAi rA0 (rIn 1 d_M_isPerson_0 rfl)) (rI d_M_isPerson_1 rfl)) (r2 o_sub (rV p_M_people (Nat.le_trans (Nat.le_of_ble_eq_true rfl) hd) lv_M_133 (rAr rA0 (rAn 0 d_M_isPerson_2 rfl)) (by decide) d_M_isPerson_3) (rI d_M_isPerson_6 rfl) d_M_isPerson_7)) (by decide) d_M_isPerson_8)) d_M_isPerson_11 rfl))
noncomputable def f_M_isPerson : List zV → zMem → Int
  | [.inr (.inr (.inl q0)), .inl p], μ => zbp (0 ≤ p ∧ p ≤ μ 357 152 - 1)
  | _, _ => 0
def g_M_isPerson : List zV → zMem → Prop
  | [.inr (.inr (.inl q0)), .inl p], μ => q0 = 355 ∧ (0 ≤ μ 357 152 ∧ μ 357 152 ≤ 7)
  | _, _ => False
theorem p_M_isPerson : zPu y_M_isPerson 2 f_M_isPerson g_M_isPerson := by
  intro as μ h
  unfold g_M_isPerson at h
  split at h
  · next q0 p =>
    obtain ⟨rfl, h⟩ := h
    refine zSp.ss [vr 355, vi p] rfl (w_M_isPerson (Nat.le_refl _)) rfl rfl ?_
    (try simp only [zit_e, Bool.and_eq_true, Bool.or_eq_true, Bool.not_eq_true', Bool.and_eq_false_iff, Bool.or_eq_false_iff, Bool.not_eq_false', zbe, zdt, zdf, zb2_p, zbp_0, zbp_1, zbp_inj, zbp_01, Bool.true_eq_false, Bool.false_eq_true, true_and, and_true, Decidable.not_not, Classical.not_not, implies_true, List.nil_append, List.cons_append, List.append_assoc, Option.some.injEq, Sum.inl.injEq, zSw_c, zSw_n]); (try simp only [zit_e, Bool.and_eq_true, Bool.or_eq_true, Bool.not_eq_true', Bool.and_eq_false_iff, Bool.or_eq_false_iff, Bool.not_eq_false', zbe, zdt, zdf, zb2_p, zbp_0, zbp_1, zbp_inj, zbp_01, Bool.true_eq_false, Bool.false_eq_true, true_and, and_true, Decidable.not_not, Classical.not_not, implies_true, List.nil_append, List.cons_append, List.append_assoc, Option.some.injEq, Sum.inl.injEq, zSw_c, zSw_n, f_M_isPerson, f_M_lies, g_M_lies, f_M_people, g_M_people, zc_355]); (try simp only [zi_cs, zi_c0, zii_cs, zii_c0, zl_cs, zl_c0, zll_cs, zll_c0, zr_cs, zr_c0, zrr_cs, zrr_c0, zxs_cs, zxs_c0, zxx_cs, zxx_c0, zfree_c0, zfree_c1, zfree_cs, zfree_cz, zlong_i, zlong_r, zlong_x, zset_0, zset_s, true_and, and_true, Option.some.injEq, Sum.inl.injEq, Sum.inr.injEq, zb2_p, zbp_0, zbp_1, zbp_inj, zbp_01, Nat.zero_add, Nat.reduceAdd, implies_true, List.nil_append, List.cons_append, List.append_assoc, Int.not_lt, Int.not_le, Decidable.not_not, Int.zero_add, Int.reduceLE, Int.reduceLT, Int.reduceEq, Int.reduceNe, Int.reduceAdd, Int.reduceSub, Int.reduceMul, Int.reduceNeg, Int.reduceToNat, Nat.reduceMul, Nat.reduceLT, Nat.reduceEqDiff, and_self, ite_true, ite_false, zx1, zx2, zRecv, List.length_cons, List.length_nil, ne_eq, not_true_eq_false, not_false_eq_true, true_or, or_true, or_false, false_or, and_false, false_and, zf01, zf10, reduceCtorEq, zSw_c, zSw_n, zm_r, zit_T, zit_F, false_implies, true_implies, f_M_isPerson, f_M_lies, g_M_lies, f_M_people, g_M_people, zc_355])
    ((try simp only [zI_e]); (first | done | omega | skip))
  · exact h.elim
theorem m_M_debts : Cond.instanceMethod y_M_debts.1 ∈ zTb ∧ Cond.selects y_M_debts.1.cls y_M_debts.1 y_M_debts.1 ∈ zTb ∧ Cond.initialized y_M_debts.1.cls ∈ zTb ∧ Cond.code y_M_debts.1 y_M_debts.2.1 y_M_debts.2.2.1 y_M_debts.2.2.2 ∈ zTb ∧ (y_M_debts.1.cls ≠ "java/lang/invoke/MethodHandle" ∧ y_M_debts.1.cls ≠ "java/lang/invoke/VarHandle" ∧ (parseMethodDescriptor y_M_debts.1.desc).map (fun d => d.parameters.length) = some 0) ∧ y_M_debts.2.2.1 ≤ 20 :=
  ⟨(zTb_in 1576 (by decide +kernel) (by decide +kernel)), (List.mem_filter.mpr ⟨List.mem_append_left _ (by decide +kernel), by decide +kernel⟩), (zTb_in 151 (by decide +kernel) (by decide +kernel)), (zTb_in 1577 (by decide +kernel) (by decide +kernel)), by decide +kernel, by decide +kernel⟩
theorem lv_M_137 : zLv "DebtDoorsModel" 137 y_M_debts 0 12 := ⟨⟨(zTb_in 1574 (by decide +kernel) (by decide +kernel)), m_M_debts.1, m_M_debts.2.1, m_M_debts.2.2⟩, _, rfl, rfl⟩
def y_M_isDebt : zMt := (⟨"DebtDoorsModel", "isDebt", "(I)Z"⟩, prog_14_method_16_code, 2, some .boolean)
theorem d_M_isDebt_0 : decode prog_14_method_16_code 0 = .ok (.iload_n 1, 1) := by decide +kernel
theorem d_M_isDebt_1 : decode prog_14_method_16_code 1 = .ok (.iconst 0, 1) := by decide +kernel
theorem d_M_isDebt_2 : decode prog_14_method_16_code 2 = .ok (.aload_n 0, 1) := by decide +kernel
theorem d_M_isDebt_3 : decode prog_14_method_16_code 3 = .ok (.invokevirtual 137, 3) := by decide +kernel
theorem d_M_isDebt_6 : decode prog_14_method_16_code 6 = .ok (.iconst 1, 1) := by decide +kernel
theorem d_M_isDebt_7 : decode prog_14_method_16_code 7 = .ok (.isub, 1) := by decide +kernel
theorem d_M_isDebt_8 : decode prog_14_method_16_code 8 = .ok (.invokestatic 123, 3) := by decide +kernel
theorem d_M_isDebt_11 : decode prog_14_method_16_code 11 = .ok (.ireturn, 1) := by decide +kernel
def w_M_isDebt {d : Nat} (hd : 2 ≤ d) := (show SS ("DebtDoorsModel", prog_14_method_16_code, 2) (some .boolean) d 0 0 0 0 _ from (sRz (xE (rS p_M_lies (Nat.le_trans (Nat.le_of_ble_eq_true rfl) hd) ls_M_123 (rAi (rAi (rAi rA0 (rIn 1 d_M_isDebt_0 rfl)) (rI d_M_isDebt_1 rfl)) (r2 o_sub (rV p_M_debts (Nat.le_trans (Nat.le_of_ble_eq_true rfl) hd) lv_M_137 (rAr rA0 (rAn 0 d_M_isDebt_2 rfl)) (by decide) d_M_isDebt_3) (rI d_M_isDebt_6 rfl) d_M_isDebt_7)) (by decide) d_M_isDebt_8)) d_M_isDebt_11 rfl))
noncomputable def f_M_isDebt : List zV → zMem → Int
  | [.inr (.inr (.inl q0)), .inl p], μ => zbp (0 ≤ p ∧ p ≤ μ 357 71 - 1)
  | _, _ => 0
def g_M_isDebt : List zV → zMem → Prop
  | [.inr (.inr (.inl q0)), .inl p], μ => q0 = 355 ∧ (0 ≤ μ 357 71 ∧ μ 357 71 ≤ 16)
  | _, _ => False
theorem p_M_isDebt : zPu y_M_isDebt 2 f_M_isDebt g_M_isDebt := by
  intro as μ h
  unfold g_M_isDebt at h
  split at h
  · next q0 p =>
    obtain ⟨rfl, h⟩ := h
    refine zSp.ss [vr 355, vi p] rfl (w_M_isDebt (Nat.le_refl _)) rfl rfl ?_
    (try simp only [zit_e, Bool.and_eq_true, Bool.or_eq_true, Bool.not_eq_true', Bool.and_eq_false_iff, Bool.or_eq_false_iff, Bool.not_eq_false', zbe, zdt, zdf, zb2_p, zbp_0, zbp_1, zbp_inj, zbp_01, Bool.true_eq_false, Bool.false_eq_true, true_and, and_true, Decidable.not_not, Classical.not_not, implies_true, List.nil_append, List.cons_append, List.append_assoc, Option.some.injEq, Sum.inl.injEq, zSw_c, zSw_n]); (try simp only [zit_e, Bool.and_eq_true, Bool.or_eq_true, Bool.not_eq_true', Bool.and_eq_false_iff, Bool.or_eq_false_iff, Bool.not_eq_false', zbe, zdt, zdf, zb2_p, zbp_0, zbp_1, zbp_inj, zbp_01, Bool.true_eq_false, Bool.false_eq_true, true_and, and_true, Decidable.not_not, Classical.not_not, implies_true, List.nil_append, List.cons_append, List.append_assoc, Option.some.injEq, Sum.inl.injEq, zSw_c, zSw_n, f_M_isDebt, f_M_lies, g_M_lies, f_M_debts, g_M_debts, zc_355]); (try simp only [zi_cs, zi_c0, zii_cs, zii_c0, zl_cs, zl_c0, zll_cs, zll_c0, zr_cs, zr_c0, zrr_cs, zrr_c0, zxs_cs, zxs_c0, zxx_cs, zxx_c0, zfree_c0, zfree_c1, zfree_cs, zfree_cz, zlong_i, zlong_r, zlong_x, zset_0, zset_s, true_and, and_true, Option.some.injEq, Sum.inl.injEq, Sum.inr.injEq, zb2_p, zbp_0, zbp_1, zbp_inj, zbp_01, Nat.zero_add, Nat.reduceAdd, implies_true, List.nil_append, List.cons_append, List.append_assoc, Int.not_lt, Int.not_le, Decidable.not_not, Int.zero_add, Int.reduceLE, Int.reduceLT, Int.reduceEq, Int.reduceNe, Int.reduceAdd, Int.reduceSub, Int.reduceMul, Int.reduceNeg, Int.reduceToNat, Nat.reduceMul, Nat.reduceLT, Nat.reduceEqDiff, and_self, ite_true, ite_false, zx1, zx2, zRecv, List.length_cons, List.length_nil, ne_eq, not_true_eq_false, not_false_eq_true, true_or, or_true, or_false, false_or, and_false, false_and, zf01, zf10, reduceCtorEq, zSw_c, zSw_n, zm_r, zit_T, zit_F, false_implies, true_implies, f_M_isDebt, f_M_lies, g_M_lies, f_M_debts, g_M_debts, zc_355])
    ((try simp only [zI_e]); (first | done | omega | skip))
  · exact h.elim
def y_M_isRoom : zMt := (⟨"DebtDoorsModel", "isRoom", "(I)Z"⟩, prog_14_method_17_code, 1, some .boolean)
theorem d_M_isRoom_0 : decode prog_14_method_17_code 0 = .ok (.iload_n 0, 1) := by decide +kernel
theorem d_M_isRoom_1 : decode prog_14_method_17_code 1 = .ok (.iconst 1, 1) := by decide +kernel
theorem d_M_isRoom_2 : decode prog_14_method_17_code 2 = .ok (.iconst 3, 1) := by decide +kernel
theorem d_M_isRoom_3 : decode prog_14_method_17_code 3 = .ok (.invokestatic 123, 3) := by decide +kernel
theorem d_M_isRoom_6 : decode prog_14_method_17_code 6 = .ok (.ireturn, 1) := by decide +kernel
def w_M_isRoom {d : Nat} (hd : 2 ≤ d) := (show SS ("DebtDoorsModel", prog_14_method_17_code, 1) (some .boolean) d 0 0 0 0 _ from (sRz (xE (rS p_M_lies (Nat.le_trans (Nat.le_of_ble_eq_true rfl) hd) ls_M_123 (rAi (rAi (rAi rA0 (rIn 0 d_M_isRoom_0 rfl)) (rI d_M_isRoom_1 rfl)) (rI d_M_isRoom_2 rfl)) (by decide) d_M_isRoom_3)) d_M_isRoom_6 rfl))
noncomputable def f_M_isRoom : List zV → zMem → Int
  | [.inl r], μ => zbp (1 ≤ r ∧ r ≤ 3)
  | _, _ => 0
def g_M_isRoom : List zV → zMem → Prop
  | [.inl r], μ => (True)
  | _, _ => False
theorem p_M_isRoom : zPu y_M_isRoom 2 f_M_isRoom g_M_isRoom := by
  intro as μ h
  unfold g_M_isRoom at h
  split at h
  · next r =>
    refine zSp.ss [vi r] rfl (w_M_isRoom (Nat.le_refl _)) rfl rfl ?_
    (try simp only [zit_e, Bool.and_eq_true, Bool.or_eq_true, Bool.not_eq_true', Bool.and_eq_false_iff, Bool.or_eq_false_iff, Bool.not_eq_false', zbe, zdt, zdf, zb2_p, zbp_0, zbp_1, zbp_inj, zbp_01, Bool.true_eq_false, Bool.false_eq_true, true_and, and_true, Decidable.not_not, Classical.not_not, implies_true, List.nil_append, List.cons_append, List.append_assoc, Option.some.injEq, Sum.inl.injEq, zSw_c, zSw_n]); (try simp only [zit_e, Bool.and_eq_true, Bool.or_eq_true, Bool.not_eq_true', Bool.and_eq_false_iff, Bool.or_eq_false_iff, Bool.not_eq_false', zbe, zdt, zdf, zb2_p, zbp_0, zbp_1, zbp_inj, zbp_01, Bool.true_eq_false, Bool.false_eq_true, true_and, and_true, Decidable.not_not, Classical.not_not, implies_true, List.nil_append, List.cons_append, List.append_assoc, Option.some.injEq, Sum.inl.injEq, zSw_c, zSw_n, f_M_isRoom, f_M_lies, g_M_lies]); (try simp only [zi_cs, zi_c0, zii_cs, zii_c0, zl_cs, zl_c0, zll_cs, zll_c0, zr_cs, zr_c0, zrr_cs, zrr_c0, zxs_cs, zxs_c0, zxx_cs, zxx_c0, zfree_c0, zfree_c1, zfree_cs, zfree_cz, zlong_i, zlong_r, zlong_x, zset_0, zset_s, true_and, and_true, Option.some.injEq, Sum.inl.injEq, Sum.inr.injEq, zb2_p, zbp_0, zbp_1, zbp_inj, zbp_01, Nat.zero_add, Nat.reduceAdd, implies_true, List.nil_append, List.cons_append, List.append_assoc, Int.not_lt, Int.not_le, Decidable.not_not, Int.zero_add, Int.reduceLE, Int.reduceLT, Int.reduceEq, Int.reduceNe, Int.reduceAdd, Int.reduceSub, Int.reduceMul, Int.reduceNeg, Int.reduceToNat, Nat.reduceMul, Nat.reduceLT, Nat.reduceEqDiff, and_self, ite_true, ite_false, zx1, zx2, zRecv, List.length_cons, List.length_nil, ne_eq, not_true_eq_false, not_false_eq_true, true_or, or_true, or_false, false_or, and_false, false_and, zf01, zf10, reduceCtorEq, zSw_c, zSw_n, zm_r, zit_T, zit_F, false_implies, true_implies, f_M_isRoom, f_M_lies, g_M_lies])
    ((try simp only [zI_e]); (first | done | omega | skip))
  · exact h.elim
def y_M_isAmount : zMt := (⟨"DebtDoorsModel", "isAmount", "(I)Z"⟩, prog_14_method_18_code, 1, some .boolean)
theorem d_M_isAmount_0 : decode prog_14_method_18_code 0 = .ok (.iload_n 0, 1) := by decide +kernel
theorem d_M_isAmount_1 : decode prog_14_method_18_code 1 = .ok (.iconst 1, 1) := by decide +kernel
theorem d_M_isAmount_2 : decode prog_14_method_18_code 2 = .ok (.sipush 9999, 3) := by decide +kernel
theorem d_M_isAmount_5 : decode prog_14_method_18_code 5 = .ok (.invokestatic 123, 3) := by decide +kernel
theorem d_M_isAmount_8 : decode prog_14_method_18_code 8 = .ok (.ireturn, 1) := by decide +kernel
def w_M_isAmount {d : Nat} (hd : 2 ≤ d) := (show SS ("DebtDoorsModel", prog_14_method_18_code, 1) (some .boolean) d 0 0 0 0 _ from (sRz (xE (rS p_M_lies (Nat.le_trans (Nat.le_of_ble_eq_true rfl) hd) ls_M_123 (rAi (rAi (rAi rA0 (rIn 0 d_M_isAmount_0 rfl)) (rI d_M_isAmount_1 rfl)) (rSi d_M_isAmount_2 rfl)) (by decide) d_M_isAmount_5)) d_M_isAmount_8 rfl))
noncomputable def f_M_isAmount : List zV → zMem → Int
  | [.inl r], μ => zbp (1 ≤ r ∧ r ≤ 9999)
  | _, _ => 0
def g_M_isAmount : List zV → zMem → Prop
  | [.inl r], μ => (True)
  | _, _ => False
theorem p_M_isAmount : zPu y_M_isAmount 2 f_M_isAmount g_M_isAmount := by
  intro as μ h
  unfold g_M_isAmount at h
  split at h
  · next r =>
    refine zSp.ss [vi r] rfl (w_M_isAmount (Nat.le_refl _)) rfl rfl ?_
    (try simp only [zit_e, Bool.and_eq_true, Bool.or_eq_true, Bool.not_eq_true', Bool.and_eq_false_iff, Bool.or_eq_false_iff, Bool.not_eq_false', zbe, zdt, zdf, zb2_p, zbp_0, zbp_1, zbp_inj, zbp_01, Bool.true_eq_false, Bool.false_eq_true, true_and, and_true, Decidable.not_not, Classical.not_not, implies_true, List.nil_append, List.cons_append, List.append_assoc, Option.some.injEq, Sum.inl.injEq, zSw_c, zSw_n]); (try simp only [zit_e, Bool.and_eq_true, Bool.or_eq_true, Bool.not_eq_true', Bool.and_eq_false_iff, Bool.or_eq_false_iff, Bool.not_eq_false', zbe, zdt, zdf, zb2_p, zbp_0, zbp_1, zbp_inj, zbp_01, Bool.true_eq_false, Bool.false_eq_true, true_and, and_true, Decidable.not_not, Classical.not_not, implies_true, List.nil_append, List.cons_append, List.append_assoc, Option.some.injEq, Sum.inl.injEq, zSw_c, zSw_n, f_M_isAmount, f_M_lies, g_M_lies]); (try simp only [zi_cs, zi_c0, zii_cs, zii_c0, zl_cs, zl_c0, zll_cs, zll_c0, zr_cs, zr_c0, zrr_cs, zrr_c0, zxs_cs, zxs_c0, zxx_cs, zxx_c0, zfree_c0, zfree_c1, zfree_cs, zfree_cz, zlong_i, zlong_r, zlong_x, zset_0, zset_s, true_and, and_true, Option.some.injEq, Sum.inl.injEq, Sum.inr.injEq, zb2_p, zbp_0, zbp_1, zbp_inj, zbp_01, Nat.zero_add, Nat.reduceAdd, implies_true, List.nil_append, List.cons_append, List.append_assoc, Int.not_lt, Int.not_le, Decidable.not_not, Int.zero_add, Int.reduceLE, Int.reduceLT, Int.reduceEq, Int.reduceNe, Int.reduceAdd, Int.reduceSub, Int.reduceMul, Int.reduceNeg, Int.reduceToNat, Nat.reduceMul, Nat.reduceLT, Nat.reduceEqDiff, and_self, ite_true, ite_false, zx1, zx2, zRecv, List.length_cons, List.length_nil, ne_eq, not_true_eq_false, not_false_eq_true, true_or, or_true, or_false, false_or, and_false, false_and, zf01, zf10, reduceCtorEq, zSw_c, zSw_n, zm_r, zit_T, zit_F, false_implies, true_implies, f_M_isAmount, f_M_lies, g_M_lies])
    ((try simp only [zI_e]); (first | done | omega | skip))
  · exact h.elim
theorem m_M_isRoom : Cond.static y_M_isRoom.1 ∈ zTb ∧ Cond.initialized y_M_isRoom.1.cls ∈ zTb ∧ Cond.code y_M_isRoom.1 y_M_isRoom.2.1 y_M_isRoom.2.2.1 y_M_isRoom.2.2.2 ∈ zTb ∧ (y_M_isRoom.1.cls ≠ "java/lang/invoke/MethodHandle" ∧ y_M_isRoom.1.cls ≠ "java/lang/invoke/VarHandle" ∧ (parseMethodDescriptor y_M_isRoom.1.desc).map (fun d => d.parameters.length) = some 1) ∧ y_M_isRoom.2.2.1 ≤ 20 :=
  ⟨(zTb_in 1542 (by decide +kernel) (by decide +kernel)), (zTb_in 151 (by decide +kernel) (by decide +kernel)), (zTb_in 1543 (by decide +kernel) (by decide +kernel)), by decide +kernel, by decide +kernel⟩
theorem ls_M_140 : zLs "DebtDoorsModel" 140 y_M_isRoom 1 := Or.inl ⟨(zTb_in 1541 (by decide +kernel) (by decide +kernel)), m_M_isRoom⟩
def y_M_isFact : zMt := (⟨"DebtDoorsModel", "isFact", "(II)Z"⟩, prog_14_method_19_code, 2, some .boolean)
theorem d_M_isFact_0 : decode prog_14_method_19_code 0 = .ok (.iload_n 0, 1) := by decide +kernel
theorem d_M_isFact_1 : decode prog_14_method_19_code 1 = .ok (.ifCond .ne 14, 3) := by decide +kernel
theorem d_M_isFact_4 : decode prog_14_method_19_code 4 = .ok (.iload_n 1, 1) := by decide +kernel
theorem d_M_isFact_5 : decode prog_14_method_19_code 5 = .ok (.iconst 0, 1) := by decide +kernel
theorem d_M_isFact_6 : decode prog_14_method_19_code 6 = .ok (.sipush 9999, 3) := by decide +kernel
theorem d_M_isFact_9 : decode prog_14_method_19_code 9 = .ok (.invokestatic 123, 3) := by decide +kernel
theorem d_M_isFact_12 : decode prog_14_method_19_code 12 = .ok (.goto 35, 3) := by decide +kernel
theorem d_M_isFact_15 : decode prog_14_method_19_code 15 = .ok (.iload_n 0, 1) := by decide +kernel
theorem d_M_isFact_16 : decode prog_14_method_19_code 16 = .ok (.iconst 1, 1) := by decide +kernel
theorem d_M_isFact_17 : decode prog_14_method_19_code 17 = .ok (.if_icmp .ne 10, 3) := by decide +kernel
theorem d_M_isFact_20 : decode prog_14_method_19_code 20 = .ok (.iload_n 1, 1) := by decide +kernel
theorem d_M_isFact_21 : decode prog_14_method_19_code 21 = .ok (.invokestatic 140, 3) := by decide +kernel
theorem d_M_isFact_24 : decode prog_14_method_19_code 24 = .ok (.goto 23, 3) := by decide +kernel
theorem d_M_isFact_27 : decode prog_14_method_19_code 27 = .ok (.iload_n 0, 1) := by decide +kernel
theorem d_M_isFact_28 : decode prog_14_method_19_code 28 = .ok (.iconst 2, 1) := by decide +kernel
theorem d_M_isFact_29 : decode prog_14_method_19_code 29 = .ok (.if_icmp .ne 17, 3) := by decide +kernel
theorem d_M_isFact_32 : decode prog_14_method_19_code 32 = .ok (.iload_n 1, 1) := by decide +kernel
theorem d_M_isFact_33 : decode prog_14_method_19_code 33 = .ok (.iconst 0, 1) := by decide +kernel
theorem d_M_isFact_34 : decode prog_14_method_19_code 34 = .ok (.bipush 99, 2) := by decide +kernel
theorem d_M_isFact_36 : decode prog_14_method_19_code 36 = .ok (.invokestatic 123, 3) := by decide +kernel
theorem d_M_isFact_39 : decode prog_14_method_19_code 39 = .ok (.ifCond .eq 7, 3) := by decide +kernel
theorem d_M_isFact_42 : decode prog_14_method_19_code 42 = .ok (.iconst 1, 1) := by decide +kernel
theorem d_M_isFact_43 : decode prog_14_method_19_code 43 = .ok (.goto 4, 3) := by decide +kernel
theorem d_M_isFact_46 : decode prog_14_method_19_code 46 = .ok (.iconst 0, 1) := by decide +kernel
theorem d_M_isFact_47 : decode prog_14_method_19_code 47 = .ok (.ireturn, 1) := by decide +kernel
def w_M_isFact {d : Nat} (hd : 3 ≤ d) := (show SS ("DebtDoorsModel", prog_14_method_19_code, 2) (some .boolean) d 0 0 0 0 _ from (sRz (xE (rT2 (rNot (rJ1 (tgt := 15) k_ne (rIn 0 d_M_isFact_0 rfl) d_M_isFact_1 (by decide))) (rGoE (p2 := 47) (rS p_M_lies (Nat.le_trans (Nat.le_of_ble_eq_true rfl) hd) ls_M_123 (rAi (rAi (rAi rA0 (rIn 1 d_M_isFact_4 rfl)) (rI d_M_isFact_5 rfl)) (rSi d_M_isFact_6 rfl)) (by decide) d_M_isFact_9) d_M_isFact_12 (by decide)) (rT2 (rNot (rJ2 (tgt := 27) j_ne (rIn 0 d_M_isFact_15 rfl) (rI d_M_isFact_16 rfl) d_M_isFact_17 (by decide))) (rGoE (p2 := 47) (rS p_M_isRoom (Nat.le_trans (Nat.le_of_ble_eq_true rfl) hd) ls_M_140 (rAi rA0 (rIn 1 d_M_isFact_20 rfl)) (by decide) d_M_isFact_21) d_M_isFact_24 (by decide)) (rTb (rAnd (mm := 32) (rNot (rJ2 (tgt := 46) j_ne (rIn 0 d_M_isFact_27 rfl) (rI d_M_isFact_28 rfl) d_M_isFact_29 (by decide))) (rNot (rJ1 (tgt := 46) k_eq (rS p_M_lies (Nat.le_trans (Nat.le_of_ble_eq_true rfl) hd) ls_M_123 (rAi (rAi (rAi rA0 (rIn 1 d_M_isFact_32 rfl)) (rI d_M_isFact_33 rfl)) (rB d_M_isFact_34 rfl)) (by decide) d_M_isFact_36) d_M_isFact_39 (by decide)))) (rGoE (p2 := 47) (rI d_M_isFact_42 rfl) d_M_isFact_43 (by decide)) (rI d_M_isFact_46 rfl))))) d_M_isFact_47 rfl))
noncomputable def f_M_isFact : List zV → zMem → Int
  | [.inl w, .inl v], μ => zbp (w = 0 ∧ (0 ≤ v ∧ v ≤ 9999) ∨ w = 1 ∧ (1 ≤ v ∧ v ≤ 3) ∨ w = 2 ∧ (0 ≤ v ∧ v ≤ 99))
  | _, _ => 0
def g_M_isFact : List zV → zMem → Prop
  | [.inl w, .inl v], μ => (True)
  | _, _ => False
theorem p_M_isFact : zPu y_M_isFact 3 f_M_isFact g_M_isFact := by
  intro as μ h
  unfold g_M_isFact at h
  split at h
  · next w v =>
    refine zSp.ss [vi w, vi v] rfl (w_M_isFact (Nat.le_refl _)) rfl rfl ?_
    (try simp only [zit_e, Bool.and_eq_true, Bool.or_eq_true, Bool.not_eq_true', Bool.and_eq_false_iff, Bool.or_eq_false_iff, Bool.not_eq_false', zbe, zdt, zdf, zb2_p, zbp_0, zbp_1, zbp_inj, zbp_01, Bool.true_eq_false, Bool.false_eq_true, true_and, and_true, Decidable.not_not, Classical.not_not, implies_true, List.nil_append, List.cons_append, List.append_assoc, Option.some.injEq, Sum.inl.injEq, zSw_c, zSw_n]); (try simp only [zit_e, Bool.and_eq_true, Bool.or_eq_true, Bool.not_eq_true', Bool.and_eq_false_iff, Bool.or_eq_false_iff, Bool.not_eq_false', zbe, zdt, zdf, zb2_p, zbp_0, zbp_1, zbp_inj, zbp_01, Bool.true_eq_false, Bool.false_eq_true, true_and, and_true, Decidable.not_not, Classical.not_not, implies_true, List.nil_append, List.cons_append, List.append_assoc, Option.some.injEq, Sum.inl.injEq, zSw_c, zSw_n, f_M_isFact, f_M_isRoom, g_M_isRoom, f_M_lies, g_M_lies]); (try simp only [zi_cs, zi_c0, zii_cs, zii_c0, zl_cs, zl_c0, zll_cs, zll_c0, zr_cs, zr_c0, zrr_cs, zrr_c0, zxs_cs, zxs_c0, zxx_cs, zxx_c0, zfree_c0, zfree_c1, zfree_cs, zfree_cz, zlong_i, zlong_r, zlong_x, zset_0, zset_s, true_and, and_true, Option.some.injEq, Sum.inl.injEq, Sum.inr.injEq, zb2_p, zbp_0, zbp_1, zbp_inj, zbp_01, Nat.zero_add, Nat.reduceAdd, implies_true, List.nil_append, List.cons_append, List.append_assoc, Int.not_lt, Int.not_le, Decidable.not_not, Int.zero_add, Int.reduceLE, Int.reduceLT, Int.reduceEq, Int.reduceNe, Int.reduceAdd, Int.reduceSub, Int.reduceMul, Int.reduceNeg, Int.reduceToNat, Nat.reduceMul, Nat.reduceLT, Nat.reduceEqDiff, and_self, ite_true, ite_false, zx1, zx2, zRecv, List.length_cons, List.length_nil, ne_eq, not_true_eq_false, not_false_eq_true, true_or, or_true, or_false, false_or, and_false, false_and, zf01, zf10, reduceCtorEq, zSw_c, zSw_n, zm_r, zit_T, zit_F, false_implies, true_implies, f_M_isFact, f_M_isRoom, g_M_isRoom, f_M_lies, g_M_lies])
    by_cases h0 : w = 0 <;> by_cases h1 : w = 1 <;> by_cases h2 : w = 2 <;> simp [h0, h1, h2, zit, zbp_0, zbp_1, zbp_inj, zbp_F, zbp_T] <;> omega
  · exact h.elim
theorem m_M_isPerson : Cond.instanceMethod y_M_isPerson.1 ∈ zTb ∧ Cond.selects y_M_isPerson.1.cls y_M_isPerson.1 y_M_isPerson.1 ∈ zTb ∧ Cond.initialized y_M_isPerson.1.cls ∈ zTb ∧ Cond.code y_M_isPerson.1 y_M_isPerson.2.1 y_M_isPerson.2.2.1 y_M_isPerson.2.2.2 ∈ zTb ∧ (y_M_isPerson.1.cls ≠ "java/lang/invoke/MethodHandle" ∧ y_M_isPerson.1.cls ≠ "java/lang/invoke/VarHandle" ∧ (parseMethodDescriptor y_M_isPerson.1.desc).map (fun d => d.parameters.length) = some 1) ∧ y_M_isPerson.2.2.1 ≤ 20 :=
  ⟨(zTb_in 1557 (by decide +kernel) (by decide +kernel)), (List.mem_filter.mpr ⟨List.mem_append_left _ (by decide +kernel), by decide +kernel⟩), (zTb_in 151 (by decide +kernel) (by decide +kernel)), (zTb_in 1558 (by decide +kernel) (by decide +kernel)), by decide +kernel, by decide +kernel⟩
theorem lv_M_152 : zLv "DebtDoorsModel" 152 y_M_isPerson 1 12 := ⟨⟨(zTb_in 1555 (by decide +kernel) (by decide +kernel)), m_M_isPerson.1, m_M_isPerson.2.1, m_M_isPerson.2.2⟩, _, rfl, rfl⟩
def y_M_areTwo : zMt := (⟨"DebtDoorsModel", "areTwo", "(II)Z"⟩, prog_14_method_80_code, 3, some .boolean)
theorem d_M_areTwo_0 : decode prog_14_method_80_code 0 = .ok (.aload_n 0, 1) := by decide +kernel
theorem d_M_areTwo_1 : decode prog_14_method_80_code 1 = .ok (.iload_n 1, 1) := by decide +kernel
theorem d_M_areTwo_2 : decode prog_14_method_80_code 2 = .ok (.invokevirtual 152, 3) := by decide +kernel
theorem d_M_areTwo_5 : decode prog_14_method_80_code 5 = .ok (.ifCond .eq 20, 3) := by decide +kernel
theorem d_M_areTwo_8 : decode prog_14_method_80_code 8 = .ok (.aload_n 0, 1) := by decide +kernel
theorem d_M_areTwo_9 : decode prog_14_method_80_code 9 = .ok (.iload_n 2, 1) := by decide +kernel
theorem d_M_areTwo_10 : decode prog_14_method_80_code 10 = .ok (.invokevirtual 152, 3) := by decide +kernel
theorem d_M_areTwo_13 : decode prog_14_method_80_code 13 = .ok (.ifCond .eq 12, 3) := by decide +kernel
theorem d_M_areTwo_16 : decode prog_14_method_80_code 16 = .ok (.iload_n 1, 1) := by decide +kernel
theorem d_M_areTwo_17 : decode prog_14_method_80_code 17 = .ok (.iload_n 2, 1) := by decide +kernel
theorem d_M_areTwo_18 : decode prog_14_method_80_code 18 = .ok (.if_icmp .eq 7, 3) := by decide +kernel
theorem d_M_areTwo_21 : decode prog_14_method_80_code 21 = .ok (.iconst 1, 1) := by decide +kernel
theorem d_M_areTwo_22 : decode prog_14_method_80_code 22 = .ok (.goto 4, 3) := by decide +kernel
theorem d_M_areTwo_25 : decode prog_14_method_80_code 25 = .ok (.iconst 0, 1) := by decide +kernel
theorem d_M_areTwo_26 : decode prog_14_method_80_code 26 = .ok (.ireturn, 1) := by decide +kernel
def w_M_areTwo {d : Nat} (hd : 3 ≤ d) := (show SS ("DebtDoorsModel", prog_14_method_80_code, 3) (some .boolean) d 0 0 0 0 _ from (sRz (xE (rTb (rAnd (mm := 16) (rAnd (mm := 8) (rNot (rJ1 (tgt := 25) k_eq (rV p_M_isPerson (Nat.le_trans (Nat.le_of_ble_eq_true rfl) hd) lv_M_152 (rAi (rAr rA0 (rAn 0 d_M_areTwo_0 rfl)) (rIn 1 d_M_areTwo_1 rfl)) (by decide) d_M_areTwo_2) d_M_areTwo_5 (by decide))) (rNot (rJ1 (tgt := 25) k_eq (rV p_M_isPerson (Nat.le_trans (Nat.le_of_ble_eq_true rfl) hd) lv_M_152 (rAi (rAr rA0 (rAn 0 d_M_areTwo_8 rfl)) (rIn 2 d_M_areTwo_9 rfl)) (by decide) d_M_areTwo_10) d_M_areTwo_13 (by decide)))) (rNot (rJ2 (tgt := 25) j_eq (rIn 1 d_M_areTwo_16 rfl) (rIn 2 d_M_areTwo_17 rfl) d_M_areTwo_18 (by decide)))) (rGoE (p2 := 26) (rI d_M_areTwo_21 rfl) d_M_areTwo_22 (by decide)) (rI d_M_areTwo_25 rfl))) d_M_areTwo_26 rfl))
noncomputable def f_M_areTwo : List zV → zMem → Int
  | [.inr (.inr (.inl q0)), .inl a, .inl b], μ => zbp ((0 ≤ a ∧ a ≤ μ 357 152 - 1) ∧ (0 ≤ b ∧ b ≤ μ 357 152 - 1) ∧ a ≠ b)
  | _, _ => 0
def g_M_areTwo : List zV → zMem → Prop
  | [.inr (.inr (.inl q0)), .inl a, .inl b], μ => q0 = 355 ∧ (0 ≤ μ 357 152 ∧ μ 357 152 ≤ 7)
  | _, _ => False
theorem p_M_areTwo : zPu y_M_areTwo 3 f_M_areTwo g_M_areTwo := by
  intro as μ h
  unfold g_M_areTwo at h
  split at h
  · next q0 a b =>
    obtain ⟨rfl, h⟩ := h
    refine zSp.ss [vr 355, vi a, vi b] rfl (w_M_areTwo (Nat.le_refl _)) rfl rfl ?_
    (try simp only [zit_e, Bool.and_eq_true, Bool.or_eq_true, Bool.not_eq_true', Bool.and_eq_false_iff, Bool.or_eq_false_iff, Bool.not_eq_false', zbe, zdt, zdf, zb2_p, zbp_0, zbp_1, zbp_inj, zbp_01, Bool.true_eq_false, Bool.false_eq_true, true_and, and_true, Decidable.not_not, Classical.not_not, implies_true, List.nil_append, List.cons_append, List.append_assoc, Option.some.injEq, Sum.inl.injEq, zSw_c, zSw_n]); (try simp only [zit_e, Bool.and_eq_true, Bool.or_eq_true, Bool.not_eq_true', Bool.and_eq_false_iff, Bool.or_eq_false_iff, Bool.not_eq_false', zbe, zdt, zdf, zb2_p, zbp_0, zbp_1, zbp_inj, zbp_01, Bool.true_eq_false, Bool.false_eq_true, true_and, and_true, Decidable.not_not, Classical.not_not, implies_true, List.nil_append, List.cons_append, List.append_assoc, Option.some.injEq, Sum.inl.injEq, zSw_c, zSw_n, f_M_areTwo, f_M_isPerson, g_M_isPerson, zc_355]); (try simp only [zi_cs, zi_c0, zii_cs, zii_c0, zl_cs, zl_c0, zll_cs, zll_c0, zr_cs, zr_c0, zrr_cs, zrr_c0, zxs_cs, zxs_c0, zxx_cs, zxx_c0, zfree_c0, zfree_c1, zfree_cs, zfree_cz, zlong_i, zlong_r, zlong_x, zset_0, zset_s, true_and, and_true, Option.some.injEq, Sum.inl.injEq, Sum.inr.injEq, zb2_p, zbp_0, zbp_1, zbp_inj, zbp_01, Nat.zero_add, Nat.reduceAdd, implies_true, List.nil_append, List.cons_append, List.append_assoc, Int.not_lt, Int.not_le, Decidable.not_not, Int.zero_add, Int.reduceLE, Int.reduceLT, Int.reduceEq, Int.reduceNe, Int.reduceAdd, Int.reduceSub, Int.reduceMul, Int.reduceNeg, Int.reduceToNat, Nat.reduceMul, Nat.reduceLT, Nat.reduceEqDiff, and_self, ite_true, ite_false, zx1, zx2, zRecv, List.length_cons, List.length_nil, ne_eq, not_true_eq_false, not_false_eq_true, true_or, or_true, or_false, false_or, and_false, false_and, zf01, zf10, reduceCtorEq, zSw_c, zSw_n, zm_r, zit_T, zit_F, false_implies, true_implies, f_M_areTwo, f_M_isPerson, g_M_isPerson, zc_355])
    ((try simp only [zI_e]); (first | done | omega | skip))
  · exact h.elim
def y_M_isOf : zMt := (⟨"DebtDoorsModel", "isOf", "(III)Z"⟩, prog_14_method_28_code, 4, some .boolean)
theorem d_M_isOf_0 : decode prog_14_method_28_code 0 = .ok (.aload_n 0, 1) := by decide +kernel
theorem d_M_isOf_1 : decode prog_14_method_28_code 1 = .ok (.getfield 24, 3) := by decide +kernel
theorem d_M_isOf_4 : decode prog_14_method_28_code 4 = .ok (.bipush 7, 2) := by decide +kernel
theorem d_M_isOf_6 : decode prog_14_method_28_code 6 = .ok (.iconst 4, 1) := by decide +kernel
theorem d_M_isOf_7 : decode prog_14_method_28_code 7 = .ok (.iload_n 1, 1) := by decide +kernel
theorem d_M_isOf_8 : decode prog_14_method_28_code 8 = .ok (.imul, 1) := by decide +kernel
theorem d_M_isOf_9 : decode prog_14_method_28_code 9 = .ok (.iadd, 1) := by decide +kernel
theorem d_M_isOf_10 : decode prog_14_method_28_code 10 = .ok (.iaload, 1) := by decide +kernel
theorem d_M_isOf_11 : decode prog_14_method_28_code 11 = .ok (.iload_n 2, 1) := by decide +kernel
theorem d_M_isOf_12 : decode prog_14_method_28_code 12 = .ok (.if_icmp .ne 24, 3) := by decide +kernel
theorem d_M_isOf_15 : decode prog_14_method_28_code 15 = .ok (.aload_n 0, 1) := by decide +kernel
theorem d_M_isOf_16 : decode prog_14_method_28_code 16 = .ok (.getfield 24, 3) := by decide +kernel
theorem d_M_isOf_19 : decode prog_14_method_28_code 19 = .ok (.bipush 7, 2) := by decide +kernel
theorem d_M_isOf_21 : decode prog_14_method_28_code 21 = .ok (.iconst 4, 1) := by decide +kernel
theorem d_M_isOf_22 : decode prog_14_method_28_code 22 = .ok (.iload_n 1, 1) := by decide +kernel
theorem d_M_isOf_23 : decode prog_14_method_28_code 23 = .ok (.imul, 1) := by decide +kernel
theorem d_M_isOf_24 : decode prog_14_method_28_code 24 = .ok (.iadd, 1) := by decide +kernel
theorem d_M_isOf_25 : decode prog_14_method_28_code 25 = .ok (.iconst 1, 1) := by decide +kernel
theorem d_M_isOf_26 : decode prog_14_method_28_code 26 = .ok (.iadd, 1) := by decide +kernel
theorem d_M_isOf_27 : decode prog_14_method_28_code 27 = .ok (.iaload, 1) := by decide +kernel
theorem d_M_isOf_28 : decode prog_14_method_28_code 28 = .ok (.iload_n 3, 1) := by decide +kernel
theorem d_M_isOf_29 : decode prog_14_method_28_code 29 = .ok (.if_icmp .ne 7, 3) := by decide +kernel
theorem d_M_isOf_32 : decode prog_14_method_28_code 32 = .ok (.iconst 1, 1) := by decide +kernel
theorem d_M_isOf_33 : decode prog_14_method_28_code 33 = .ok (.goto 4, 3) := by decide +kernel
theorem d_M_isOf_36 : decode prog_14_method_28_code 36 = .ok (.iconst 0, 1) := by decide +kernel
theorem d_M_isOf_37 : decode prog_14_method_28_code 37 = .ok (.ireturn, 1) := by decide +kernel
def w_M_isOf {d : Nat} (hd : 1 ≤ d) := (show SS ("DebtDoorsModel", prog_14_method_28_code, 4) (some .boolean) d 0 0 0 0 _ from (sRz (xE (rTb (rAnd (mm := 15) (rNot (rJ2 (tgt := 36) j_ne (rIa (rFr fl_M_24 nk_12_2 (rAn 0 d_M_isOf_0 rfl) d_M_isOf_1) (r2 o_add (rB d_M_isOf_4 rfl) (r2 o_mul (rI d_M_isOf_6 rfl) (rIn 1 d_M_isOf_7 rfl) d_M_isOf_8) d_M_isOf_9) d_M_isOf_10) (rIn 2 d_M_isOf_11 rfl) d_M_isOf_12 (by decide))) (rNot (rJ2 (tgt := 36) j_ne (rIa (rFr fl_M_24 nk_12_2 (rAn 0 d_M_isOf_15 rfl) d_M_isOf_16) (r2 o_add (r2 o_add (rB d_M_isOf_19 rfl) (r2 o_mul (rI d_M_isOf_21 rfl) (rIn 1 d_M_isOf_22 rfl) d_M_isOf_23) d_M_isOf_24) (rI d_M_isOf_25 rfl) d_M_isOf_26) d_M_isOf_27) (rIn 3 d_M_isOf_28 rfl) d_M_isOf_29 (by decide)))) (rGoE (p2 := 37) (rI d_M_isOf_32 rfl) d_M_isOf_33 (by decide)) (rI d_M_isOf_36 rfl))) d_M_isOf_37 rfl))
noncomputable def f_M_isOf : List zV → zMem → Int
  | [.inr (.inr (.inl q0)), .inl d, .inl a, .inl b], μ => zbp (μ 357 (7 + 4 * d) = a ∧ μ 357 (7 + 4 * d + 1) = b)
  | _, _ => 0
def g_M_isOf : List zV → zMem → Prop
  | [.inr (.inr (.inl q0)), .inl d, .inl a, .inl b], μ => q0 = 355 ∧ (0 ≤ d ∧ d ≤ 16)
  | _, _ => False
theorem p_M_isOf : zPu y_M_isOf 1 f_M_isOf g_M_isOf := by
  intro as μ h
  unfold g_M_isOf at h
  split at h
  · next q0 d a b =>
    obtain ⟨rfl, h⟩ := h
    refine zSp.ss [vr 355, vi d, vi a, vi b] rfl (w_M_isOf (Nat.le_refl _)) rfl rfl ?_
    (try simp only [zit_e, Bool.and_eq_true, Bool.or_eq_true, Bool.not_eq_true', Bool.and_eq_false_iff, Bool.or_eq_false_iff, Bool.not_eq_false', zbe, zdt, zdf, zb2_p, zbp_0, zbp_1, zbp_inj, zbp_01, Bool.true_eq_false, Bool.false_eq_true, true_and, and_true, Decidable.not_not, Classical.not_not, implies_true, List.nil_append, List.cons_append, List.append_assoc, Option.some.injEq, Sum.inl.injEq, zSw_c, zSw_n]); (try simp only [zit_e, Bool.and_eq_true, Bool.or_eq_true, Bool.not_eq_true', Bool.and_eq_false_iff, Bool.or_eq_false_iff, Bool.not_eq_false', zbe, zdt, zdf, zb2_p, zbp_0, zbp_1, zbp_inj, zbp_01, Bool.true_eq_false, Bool.false_eq_true, true_and, and_true, Decidable.not_not, Classical.not_not, implies_true, List.nil_append, List.cons_append, List.append_assoc, Option.some.injEq, Sum.inl.injEq, zSw_c, zSw_n, f_M_isOf, zc_355]); (try simp only [zi_cs, zi_c0, zii_cs, zii_c0, zl_cs, zl_c0, zll_cs, zll_c0, zr_cs, zr_c0, zrr_cs, zrr_c0, zxs_cs, zxs_c0, zxx_cs, zxx_c0, zfree_c0, zfree_c1, zfree_cs, zfree_cz, zlong_i, zlong_r, zlong_x, zset_0, zset_s, true_and, and_true, Option.some.injEq, Sum.inl.injEq, Sum.inr.injEq, zb2_p, zbp_0, zbp_1, zbp_inj, zbp_01, Nat.zero_add, Nat.reduceAdd, implies_true, List.nil_append, List.cons_append, List.append_assoc, Int.not_lt, Int.not_le, Decidable.not_not, Int.zero_add, Int.reduceLE, Int.reduceLT, Int.reduceEq, Int.reduceNe, Int.reduceAdd, Int.reduceSub, Int.reduceMul, Int.reduceNeg, Int.reduceToNat, Nat.reduceMul, Nat.reduceLT, Nat.reduceEqDiff, and_self, ite_true, ite_false, zx1, zx2, zRecv, List.length_cons, List.length_nil, ne_eq, not_true_eq_false, not_false_eq_true, true_or, or_true, or_false, false_or, and_false, false_and, zf01, zf10, reduceCtorEq, zSw_c, zSw_n, zm_r, zit_T, zit_F, false_implies, true_implies, f_M_isOf, zc_355])
    ((try simp only [zI_e]); (first | done | omega | skip))
  · exact h.elim
theorem fl_M_277 : zFl "DebtDoorsModel" 277 12 21 := ⟨_, rfl, by decide, (zTb_in 1347 (by decide +kernel) (by decide +kernel)), rfl⟩
theorem nk_12_21 : zNk 12 21 = some 0 := rfl
def y_M_codeAt : zMt := (⟨"DebtDoorsModel", "codeAt", "(I)I"⟩, prog_14_method_63_code, 2, some .int)
theorem d_M_codeAt_0 : decode prog_14_method_63_code 0 = .ok (.iload_n 1, 1) := by decide +kernel
theorem d_M_codeAt_1 : decode prog_14_method_63_code 1 = .ok (.aload_n 0, 1) := by decide +kernel
theorem d_M_codeAt_2 : decode prog_14_method_63_code 2 = .ok (.getfield 277, 3) := by decide +kernel
theorem d_M_codeAt_5 : decode prog_14_method_63_code 5 = .ok (.if_icmp .ge 16, 3) := by decide +kernel
theorem d_M_codeAt_8 : decode prog_14_method_63_code 8 = .ok (.aload_n 0, 1) := by decide +kernel
theorem d_M_codeAt_9 : decode prog_14_method_63_code 9 = .ok (.getfield 24, 3) := by decide +kernel
theorem d_M_codeAt_12 : decode prog_14_method_63_code 12 = .ok (.sipush 164, 3) := by decide +kernel
theorem d_M_codeAt_15 : decode prog_14_method_63_code 15 = .ok (.iload_n 1, 1) := by decide +kernel
theorem d_M_codeAt_16 : decode prog_14_method_63_code 16 = .ok (.iadd, 1) := by decide +kernel
theorem d_M_codeAt_17 : decode prog_14_method_63_code 17 = .ok (.iaload, 1) := by decide +kernel
theorem d_M_codeAt_18 : decode prog_14_method_63_code 18 = .ok (.goto 4, 3) := by decide +kernel
theorem d_M_codeAt_21 : decode prog_14_method_63_code 21 = .ok (.iconst 0, 1) := by decide +kernel
theorem d_M_codeAt_22 : decode prog_14_method_63_code 22 = .ok (.ireturn, 1) := by decide +kernel
def w_M_codeAt {d : Nat} (hd : 1 ≤ d) := (show SS ("DebtDoorsModel", prog_14_method_63_code, 2) (some .int) d 0 0 0 0 _ from (sRi (xE (rT2 (rNot (rJ2 (tgt := 21) j_ge (rIn 1 d_M_codeAt_0 rfl) (rF 21 fl_M_277 nk_12_21 (rAn 0 d_M_codeAt_1 rfl) d_M_codeAt_2 rfl) d_M_codeAt_5 (by decide))) (rGoE (p2 := 22) (rIa (rFr fl_M_24 nk_12_2 (rAn 0 d_M_codeAt_8 rfl) d_M_codeAt_9) (r2 o_add (rSi d_M_codeAt_12 rfl) (rIn 1 d_M_codeAt_15 rfl) d_M_codeAt_16) d_M_codeAt_17) d_M_codeAt_18 (by decide)) (rI d_M_codeAt_21 rfl))) d_M_codeAt_22 rfl))
noncomputable def f_M_codeAt : List zV → zMem → Int
  | [.inr (.inr (.inl q0)), .inl k], μ => if k < μ 355 21 then μ 357 (164 + k) else 0
  | _, _ => 0
def g_M_codeAt : List zV → zMem → Prop
  | [.inr (.inr (.inl q0)), .inl k], μ => q0 = 355 ∧ (0 ≤ k ∧ μ 355 21 ≤ 2800)
  | _, _ => False
theorem p_M_codeAt : zPu y_M_codeAt 1 f_M_codeAt g_M_codeAt := by
  intro as μ h
  unfold g_M_codeAt at h
  split at h
  · next q0 k =>
    obtain ⟨rfl, h⟩ := h
    refine zSp.ss [vr 355, vi k] rfl (w_M_codeAt (Nat.le_refl _)) rfl rfl ?_
    (try simp only [zit_e, Bool.and_eq_true, Bool.or_eq_true, Bool.not_eq_true', Bool.and_eq_false_iff, Bool.or_eq_false_iff, Bool.not_eq_false', zbe, zdt, zdf, zb2_p, zbp_0, zbp_1, zbp_inj, zbp_01, Bool.true_eq_false, Bool.false_eq_true, true_and, and_true, Decidable.not_not, Classical.not_not, implies_true, List.nil_append, List.cons_append, List.append_assoc, Option.some.injEq, Sum.inl.injEq, zSw_c, zSw_n]); (try simp only [zit_e, Bool.and_eq_true, Bool.or_eq_true, Bool.not_eq_true', Bool.and_eq_false_iff, Bool.or_eq_false_iff, Bool.not_eq_false', zbe, zdt, zdf, zb2_p, zbp_0, zbp_1, zbp_inj, zbp_01, Bool.true_eq_false, Bool.false_eq_true, true_and, and_true, Decidable.not_not, Classical.not_not, implies_true, List.nil_append, List.cons_append, List.append_assoc, Option.some.injEq, Sum.inl.injEq, zSw_c, zSw_n, f_M_codeAt, zc_355]); (try simp only [zi_cs, zi_c0, zii_cs, zii_c0, zl_cs, zl_c0, zll_cs, zll_c0, zr_cs, zr_c0, zrr_cs, zrr_c0, zxs_cs, zxs_c0, zxx_cs, zxx_c0, zfree_c0, zfree_c1, zfree_cs, zfree_cz, zlong_i, zlong_r, zlong_x, zset_0, zset_s, true_and, and_true, Option.some.injEq, Sum.inl.injEq, Sum.inr.injEq, zb2_p, zbp_0, zbp_1, zbp_inj, zbp_01, Nat.zero_add, Nat.reduceAdd, implies_true, List.nil_append, List.cons_append, List.append_assoc, Int.not_lt, Int.not_le, Decidable.not_not, Int.zero_add, Int.reduceLE, Int.reduceLT, Int.reduceEq, Int.reduceNe, Int.reduceAdd, Int.reduceSub, Int.reduceMul, Int.reduceNeg, Int.reduceToNat, Nat.reduceMul, Nat.reduceLT, Nat.reduceEqDiff, and_self, ite_true, ite_false, zx1, zx2, zRecv, List.length_cons, List.length_nil, ne_eq, not_true_eq_false, not_false_eq_true, true_or, or_true, or_false, false_or, and_false, false_and, zf01, zf10, reduceCtorEq, zSw_c, zSw_n, zm_r, zit_T, zit_F, false_implies, true_implies, f_M_codeAt, zc_355])
    ((try simp only [zI_e]); (first | done | omega | skip))
  · exact h.elim
def y_M_isAlike : zMt := (⟨"DebtDoorsModel", "isAlike", "(II)Z"⟩, prog_14_method_107_code, 3, some .boolean)
theorem d_M_isAlike_0 : decode prog_14_method_107_code 0 = .ok (.aload_n 0, 1) := by decide +kernel
theorem d_M_isAlike_1 : decode prog_14_method_107_code 1 = .ok (.getfield 24, 3) := by decide +kernel
theorem d_M_isAlike_4 : decode prog_14_method_107_code 4 = .ok (.bipush 87, 2) := by decide +kernel
theorem d_M_isAlike_6 : decode prog_14_method_107_code 6 = .ok (.iconst 4, 1) := by decide +kernel
theorem d_M_isAlike_7 : decode prog_14_method_107_code 7 = .ok (.iload_n 1, 1) := by decide +kernel
theorem d_M_isAlike_8 : decode prog_14_method_107_code 8 = .ok (.imul, 1) := by decide +kernel
theorem d_M_isAlike_9 : decode prog_14_method_107_code 9 = .ok (.iadd, 1) := by decide +kernel
theorem d_M_isAlike_10 : decode prog_14_method_107_code 10 = .ok (.iaload, 1) := by decide +kernel
theorem d_M_isAlike_11 : decode prog_14_method_107_code 11 = .ok (.aload_n 0, 1) := by decide +kernel
theorem d_M_isAlike_12 : decode prog_14_method_107_code 12 = .ok (.getfield 24, 3) := by decide +kernel
theorem d_M_isAlike_15 : decode prog_14_method_107_code 15 = .ok (.bipush 87, 2) := by decide +kernel
theorem d_M_isAlike_17 : decode prog_14_method_107_code 17 = .ok (.iconst 4, 1) := by decide +kernel
theorem d_M_isAlike_18 : decode prog_14_method_107_code 18 = .ok (.iload_n 2, 1) := by decide +kernel
theorem d_M_isAlike_19 : decode prog_14_method_107_code 19 = .ok (.imul, 1) := by decide +kernel
theorem d_M_isAlike_20 : decode prog_14_method_107_code 20 = .ok (.iadd, 1) := by decide +kernel
theorem d_M_isAlike_21 : decode prog_14_method_107_code 21 = .ok (.iaload, 1) := by decide +kernel
theorem d_M_isAlike_22 : decode prog_14_method_107_code 22 = .ok (.if_icmp .ne 36, 3) := by decide +kernel
theorem d_M_isAlike_25 : decode prog_14_method_107_code 25 = .ok (.aload_n 0, 1) := by decide +kernel
theorem d_M_isAlike_26 : decode prog_14_method_107_code 26 = .ok (.getfield 24, 3) := by decide +kernel
theorem d_M_isAlike_29 : decode prog_14_method_107_code 29 = .ok (.bipush 87, 2) := by decide +kernel
theorem d_M_isAlike_31 : decode prog_14_method_107_code 31 = .ok (.iconst 4, 1) := by decide +kernel
theorem d_M_isAlike_32 : decode prog_14_method_107_code 32 = .ok (.iload_n 1, 1) := by decide +kernel
theorem d_M_isAlike_33 : decode prog_14_method_107_code 33 = .ok (.imul, 1) := by decide +kernel
theorem d_M_isAlike_34 : decode prog_14_method_107_code 34 = .ok (.iadd, 1) := by decide +kernel
theorem d_M_isAlike_35 : decode prog_14_method_107_code 35 = .ok (.iconst 1, 1) := by decide +kernel
theorem d_M_isAlike_36 : decode prog_14_method_107_code 36 = .ok (.iadd, 1) := by decide +kernel
theorem d_M_isAlike_37 : decode prog_14_method_107_code 37 = .ok (.iaload, 1) := by decide +kernel
theorem d_M_isAlike_38 : decode prog_14_method_107_code 38 = .ok (.aload_n 0, 1) := by decide +kernel
theorem d_M_isAlike_39 : decode prog_14_method_107_code 39 = .ok (.getfield 24, 3) := by decide +kernel
theorem d_M_isAlike_42 : decode prog_14_method_107_code 42 = .ok (.bipush 87, 2) := by decide +kernel
theorem d_M_isAlike_44 : decode prog_14_method_107_code 44 = .ok (.iconst 4, 1) := by decide +kernel
theorem d_M_isAlike_45 : decode prog_14_method_107_code 45 = .ok (.iload_n 2, 1) := by decide +kernel
theorem d_M_isAlike_46 : decode prog_14_method_107_code 46 = .ok (.imul, 1) := by decide +kernel
theorem d_M_isAlike_47 : decode prog_14_method_107_code 47 = .ok (.iadd, 1) := by decide +kernel
theorem d_M_isAlike_48 : decode prog_14_method_107_code 48 = .ok (.iconst 1, 1) := by decide +kernel
theorem d_M_isAlike_49 : decode prog_14_method_107_code 49 = .ok (.iadd, 1) := by decide +kernel
theorem d_M_isAlike_50 : decode prog_14_method_107_code 50 = .ok (.iaload, 1) := by decide +kernel
theorem d_M_isAlike_51 : decode prog_14_method_107_code 51 = .ok (.if_icmp .ne 7, 3) := by decide +kernel
theorem d_M_isAlike_54 : decode prog_14_method_107_code 54 = .ok (.iconst 1, 1) := by decide +kernel
theorem d_M_isAlike_55 : decode prog_14_method_107_code 55 = .ok (.goto 4, 3) := by decide +kernel
theorem d_M_isAlike_58 : decode prog_14_method_107_code 58 = .ok (.iconst 0, 1) := by decide +kernel
theorem d_M_isAlike_59 : decode prog_14_method_107_code 59 = .ok (.ireturn, 1) := by decide +kernel
def w_M_isAlike {d : Nat} (hd : 1 ≤ d) := (show SS ("DebtDoorsModel", prog_14_method_107_code, 3) (some .boolean) d 0 0 0 0 _ from (sRz (xE (rTb (rAnd (mm := 25) (rNot (rJ2 (tgt := 58) j_ne (rIa (rFr fl_M_24 nk_12_2 (rAn 0 d_M_isAlike_0 rfl) d_M_isAlike_1) (r2 o_add (rB d_M_isAlike_4 rfl) (r2 o_mul (rI d_M_isAlike_6 rfl) (rIn 1 d_M_isAlike_7 rfl) d_M_isAlike_8) d_M_isAlike_9) d_M_isAlike_10) (rIa (rFr fl_M_24 nk_12_2 (rAn 0 d_M_isAlike_11 rfl) d_M_isAlike_12) (r2 o_add (rB d_M_isAlike_15 rfl) (r2 o_mul (rI d_M_isAlike_17 rfl) (rIn 2 d_M_isAlike_18 rfl) d_M_isAlike_19) d_M_isAlike_20) d_M_isAlike_21) d_M_isAlike_22 (by decide))) (rNot (rJ2 (tgt := 58) j_ne (rIa (rFr fl_M_24 nk_12_2 (rAn 0 d_M_isAlike_25 rfl) d_M_isAlike_26) (r2 o_add (r2 o_add (rB d_M_isAlike_29 rfl) (r2 o_mul (rI d_M_isAlike_31 rfl) (rIn 1 d_M_isAlike_32 rfl) d_M_isAlike_33) d_M_isAlike_34) (rI d_M_isAlike_35 rfl) d_M_isAlike_36) d_M_isAlike_37) (rIa (rFr fl_M_24 nk_12_2 (rAn 0 d_M_isAlike_38 rfl) d_M_isAlike_39) (r2 o_add (r2 o_add (rB d_M_isAlike_42 rfl) (r2 o_mul (rI d_M_isAlike_44 rfl) (rIn 2 d_M_isAlike_45 rfl) d_M_isAlike_46) d_M_isAlike_47) (rI d_M_isAlike_48 rfl) d_M_isAlike_49) d_M_isAlike_50) d_M_isAlike_51 (by decide)))) (rGoE (p2 := 59) (rI d_M_isAlike_54 rfl) d_M_isAlike_55 (by decide)) (rI d_M_isAlike_58 rfl))) d_M_isAlike_59 rfl))
noncomputable def f_M_isAlike : List zV → zMem → Int
  | [.inr (.inr (.inl q0)), .inl v, .inl o], μ => zbp (μ 357 (87 + 4 * v) = μ 357 (87 + 4 * o) ∧ μ 357 (87 + 4 * v + 1) = μ 357 (87 + 4 * o + 1))
  | _, _ => 0
def g_M_isAlike : List zV → zMem → Prop
  | [.inr (.inr (.inl q0)), .inl v, .inl o], μ => q0 = 355 ∧ ((0 ≤ v ∧ v < 8) ∧ 0 ≤ o ∧ o < 8)
  | _, _ => False
theorem p_M_isAlike : zPu y_M_isAlike 1 f_M_isAlike g_M_isAlike := by
  intro as μ h
  unfold g_M_isAlike at h
  split at h
  · next q0 v o =>
    obtain ⟨rfl, h⟩ := h
    refine zSp.ss [vr 355, vi v, vi o] rfl (w_M_isAlike (Nat.le_refl _)) rfl rfl ?_
    (try simp only [zit_e, Bool.and_eq_true, Bool.or_eq_true, Bool.not_eq_true', Bool.and_eq_false_iff, Bool.or_eq_false_iff, Bool.not_eq_false', zbe, zdt, zdf, zb2_p, zbp_0, zbp_1, zbp_inj, zbp_01, Bool.true_eq_false, Bool.false_eq_true, true_and, and_true, Decidable.not_not, Classical.not_not, implies_true, List.nil_append, List.cons_append, List.append_assoc, Option.some.injEq, Sum.inl.injEq, zSw_c, zSw_n]); (try simp only [zit_e, Bool.and_eq_true, Bool.or_eq_true, Bool.not_eq_true', Bool.and_eq_false_iff, Bool.or_eq_false_iff, Bool.not_eq_false', zbe, zdt, zdf, zb2_p, zbp_0, zbp_1, zbp_inj, zbp_01, Bool.true_eq_false, Bool.false_eq_true, true_and, and_true, Decidable.not_not, Classical.not_not, implies_true, List.nil_append, List.cons_append, List.append_assoc, Option.some.injEq, Sum.inl.injEq, zSw_c, zSw_n, f_M_isAlike, zc_355]); (try simp only [zi_cs, zi_c0, zii_cs, zii_c0, zl_cs, zl_c0, zll_cs, zll_c0, zr_cs, zr_c0, zrr_cs, zrr_c0, zxs_cs, zxs_c0, zxx_cs, zxx_c0, zfree_c0, zfree_c1, zfree_cs, zfree_cz, zlong_i, zlong_r, zlong_x, zset_0, zset_s, true_and, and_true, Option.some.injEq, Sum.inl.injEq, Sum.inr.injEq, zb2_p, zbp_0, zbp_1, zbp_inj, zbp_01, Nat.zero_add, Nat.reduceAdd, implies_true, List.nil_append, List.cons_append, List.append_assoc, Int.not_lt, Int.not_le, Decidable.not_not, Int.zero_add, Int.reduceLE, Int.reduceLT, Int.reduceEq, Int.reduceNe, Int.reduceAdd, Int.reduceSub, Int.reduceMul, Int.reduceNeg, Int.reduceToNat, Nat.reduceMul, Nat.reduceLT, Nat.reduceEqDiff, and_self, ite_true, ite_false, zx1, zx2, zRecv, List.length_cons, List.length_nil, ne_eq, not_true_eq_false, not_false_eq_true, true_or, or_true, or_false, false_or, and_false, false_and, zf01, zf10, reduceCtorEq, zSw_c, zSw_n, zm_r, zit_T, zit_F, false_implies, true_implies, f_M_isAlike, zc_355])
    ((try simp only [zI_e]); (first | done | omega | skip))
  · exact h.elim
theorem fl_M_219 : zFl "DebtDoorsModel" 219 12 8 := ⟨_, rfl, by decide, (zTb_in 1334 (by decide +kernel) (by decide +kernel)), rfl⟩
theorem nk_12_8 : zNk 12 8 = some 1 := rfl
def y_M_isValue : zMt := (⟨"DebtDoorsModel", "isValue", "(I)Z"⟩, prog_14_method_47_code, 2, some .boolean)
theorem d_M_isValue_0 : decode prog_14_method_47_code 0 = .ok (.aload_n 0, 1) := by decide +kernel
theorem d_M_isValue_1 : decode prog_14_method_47_code 1 = .ok (.getfield 219, 3) := by decide +kernel
theorem d_M_isValue_4 : decode prog_14_method_47_code 4 = .ok (.ifCond .eq 28, 3) := by decide +kernel
theorem d_M_isValue_7 : decode prog_14_method_47_code 7 = .ok (.iload_n 1, 1) := by decide +kernel
theorem d_M_isValue_8 : decode prog_14_method_47_code 8 = .ok (.bipush 17, 2) := by decide +kernel
theorem d_M_isValue_10 : decode prog_14_method_47_code 10 = .ok (.if_icmp .eq 14, 3) := by decide +kernel
theorem d_M_isValue_13 : decode prog_14_method_47_code 13 = .ok (.iload_n 1, 1) := by decide +kernel
theorem d_M_isValue_14 : decode prog_14_method_47_code 14 = .ok (.bipush 19, 2) := by decide +kernel
theorem d_M_isValue_16 : decode prog_14_method_47_code 16 = .ok (.bipush 23, 2) := by decide +kernel
theorem d_M_isValue_18 : decode prog_14_method_47_code 18 = .ok (.invokestatic 123, 3) := by decide +kernel
theorem d_M_isValue_21 : decode prog_14_method_47_code 21 = .ok (.ifCond .eq 7, 3) := by decide +kernel
theorem d_M_isValue_24 : decode prog_14_method_47_code 24 = .ok (.iconst 1, 1) := by decide +kernel
theorem d_M_isValue_25 : decode prog_14_method_47_code 25 = .ok (.goto 15, 3) := by decide +kernel
theorem d_M_isValue_28 : decode prog_14_method_47_code 28 = .ok (.iconst 0, 1) := by decide +kernel
theorem d_M_isValue_29 : decode prog_14_method_47_code 29 = .ok (.goto 11, 3) := by decide +kernel
theorem d_M_isValue_32 : decode prog_14_method_47_code 32 = .ok (.iload_n 1, 1) := by decide +kernel
theorem d_M_isValue_33 : decode prog_14_method_47_code 33 = .ok (.bipush 9, 2) := by decide +kernel
theorem d_M_isValue_35 : decode prog_14_method_47_code 35 = .ok (.bipush 18, 2) := by decide +kernel
theorem d_M_isValue_37 : decode prog_14_method_47_code 37 = .ok (.invokestatic 123, 3) := by decide +kernel
theorem d_M_isValue_40 : decode prog_14_method_47_code 40 = .ok (.ireturn, 1) := by decide +kernel
def w_M_isValue {d : Nat} (hd : 2 ≤ d) := (show SS ("DebtDoorsModel", prog_14_method_47_code, 2) (some .boolean) d 0 0 0 0 _ from (sRz (xE (rT2 (rNot (rJ1 (tgt := 32) k_eq (rF 8 fl_M_219 nk_12_8 (rAn 0 d_M_isValue_0 rfl) d_M_isValue_1 rfl) d_M_isValue_4 (by decide))) (rTb (rOr (mm := 13) (rJ2 (tgt := 24) j_eq (rIn 1 d_M_isValue_7 rfl) (rB d_M_isValue_8 rfl) d_M_isValue_10 (by decide)) (rNot (rJ1 (tgt := 28) k_eq (rS p_M_lies (Nat.le_trans (Nat.le_of_ble_eq_true rfl) hd) ls_M_123 (rAi (rAi (rAi rA0 (rIn 1 d_M_isValue_13 rfl)) (rB d_M_isValue_14 rfl)) (rB d_M_isValue_16 rfl)) (by decide) d_M_isValue_18) d_M_isValue_21 (by decide)))) (rGoE (p2 := 40) (rI d_M_isValue_24 rfl) d_M_isValue_25 (by decide)) (rGoE (p2 := 40) (rI d_M_isValue_28 rfl) d_M_isValue_29 (by decide))) (rS p_M_lies (Nat.le_trans (Nat.le_of_ble_eq_true rfl) hd) ls_M_123 (rAi (rAi (rAi rA0 (rIn 1 d_M_isValue_32 rfl)) (rB d_M_isValue_33 rfl)) (rB d_M_isValue_35 rfl)) (by decide) d_M_isValue_37))) d_M_isValue_40 rfl))
noncomputable def f_M_isValue : List zV → zMem → Int
  | [.inr (.inr (.inl q0)), .inl c], μ => zbp (if μ 355 8 = 1 then c = 17 ∨ 19 ≤ c ∧ c ≤ 23 else 9 ≤ c ∧ c ≤ 18)
  | _, _ => 0
def g_M_isValue : List zV → zMem → Prop
  | [.inr (.inr (.inl q0)), .inl c], μ => q0 = 355 ∧ (μ 355 8 = 0 ∨ μ 355 8 = 1)
  | _, _ => False
theorem p_M_isValue : zPu y_M_isValue 2 f_M_isValue g_M_isValue := by
  intro as μ h
  unfold g_M_isValue at h
  split at h
  · next q0 c =>
    obtain ⟨rfl, h⟩ := h
    refine zSp.ss [vr 355, vi c] rfl (w_M_isValue (Nat.le_refl _)) rfl rfl ?_
    (try simp only [zit_e, Bool.and_eq_true, Bool.or_eq_true, Bool.not_eq_true', Bool.and_eq_false_iff, Bool.or_eq_false_iff, Bool.not_eq_false', zbe, zdt, zdf, zb2_p, zbp_0, zbp_1, zbp_inj, zbp_01, Bool.true_eq_false, Bool.false_eq_true, true_and, and_true, Decidable.not_not, Classical.not_not, implies_true, List.nil_append, List.cons_append, List.append_assoc, Option.some.injEq, Sum.inl.injEq, zSw_c, zSw_n]); (try simp only [zit_e, Bool.and_eq_true, Bool.or_eq_true, Bool.not_eq_true', Bool.and_eq_false_iff, Bool.or_eq_false_iff, Bool.not_eq_false', zbe, zdt, zdf, zb2_p, zbp_0, zbp_1, zbp_inj, zbp_01, Bool.true_eq_false, Bool.false_eq_true, true_and, and_true, Decidable.not_not, Classical.not_not, implies_true, List.nil_append, List.cons_append, List.append_assoc, Option.some.injEq, Sum.inl.injEq, zSw_c, zSw_n, f_M_isValue, f_M_lies, g_M_lies, zc_355]); (try simp only [zi_cs, zi_c0, zii_cs, zii_c0, zl_cs, zl_c0, zll_cs, zll_c0, zr_cs, zr_c0, zrr_cs, zrr_c0, zxs_cs, zxs_c0, zxx_cs, zxx_c0, zfree_c0, zfree_c1, zfree_cs, zfree_cz, zlong_i, zlong_r, zlong_x, zset_0, zset_s, true_and, and_true, Option.some.injEq, Sum.inl.injEq, Sum.inr.injEq, zb2_p, zbp_0, zbp_1, zbp_inj, zbp_01, Nat.zero_add, Nat.reduceAdd, implies_true, List.nil_append, List.cons_append, List.append_assoc, Int.not_lt, Int.not_le, Decidable.not_not, Int.zero_add, Int.reduceLE, Int.reduceLT, Int.reduceEq, Int.reduceNe, Int.reduceAdd, Int.reduceSub, Int.reduceMul, Int.reduceNeg, Int.reduceToNat, Nat.reduceMul, Nat.reduceLT, Nat.reduceEqDiff, and_self, ite_true, ite_false, zx1, zx2, zRecv, List.length_cons, List.length_nil, ne_eq, not_true_eq_false, not_false_eq_true, true_or, or_true, or_false, false_or, and_false, false_and, zf01, zf10, reduceCtorEq, zSw_c, zSw_n, zm_r, zit_T, zit_F, false_implies, true_implies, f_M_isValue, f_M_lies, g_M_lies, zc_355])
    have : μ 355 8 = 0 ∨ μ 355 8 = 1 := h
    rcases this with e | e <;> simp [e, zit, zbp_0, zbp_1, zbp_inj, zbp_F, zbp_T] <;> omega
  · exact h.elim

