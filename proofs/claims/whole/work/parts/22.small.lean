def y_D_between : zMt := (⟨"DebtDoors", "between", "(III)Z"⟩, prog_1_method_69_code, 3, some .boolean)
theorem d_D_between_0 : decode prog_1_method_69_code 0 = .ok (.iload_n 0, 1) := by decide +kernel
theorem d_D_between_1 : decode prog_1_method_69_code 1 = .ok (.iload_n 1, 1) := by decide +kernel
theorem d_D_between_2 : decode prog_1_method_69_code 2 = .ok (.if_icmp .lt 12, 3) := by decide +kernel
theorem d_D_between_5 : decode prog_1_method_69_code 5 = .ok (.iload_n 0, 1) := by decide +kernel
theorem d_D_between_6 : decode prog_1_method_69_code 6 = .ok (.iload_n 2, 1) := by decide +kernel
theorem d_D_between_7 : decode prog_1_method_69_code 7 = .ok (.if_icmp .gt 7, 3) := by decide +kernel
theorem d_D_between_10 : decode prog_1_method_69_code 10 = .ok (.iconst 1, 1) := by decide +kernel
theorem d_D_between_11 : decode prog_1_method_69_code 11 = .ok (.goto 4, 3) := by decide +kernel
theorem d_D_between_14 : decode prog_1_method_69_code 14 = .ok (.iconst 0, 1) := by decide +kernel
theorem d_D_between_15 : decode prog_1_method_69_code 15 = .ok (.ireturn, 1) := by decide +kernel
def w_D_between {d : Nat} (hd : 1 ≤ d) := (show SS ("DebtDoors", prog_1_method_69_code, 3) (some .boolean) d 0 0 0 0 _ from (sRz (xE (rTb (rAnd (mm := 5) (rNot (rJ2 (tgt := 14) j_lt (rIn 0 d_D_between_0 rfl) (rIn 1 d_D_between_1 rfl) d_D_between_2 (by decide))) (rNot (rJ2 (tgt := 14) j_gt (rIn 0 d_D_between_5 rfl) (rIn 2 d_D_between_6 rfl) d_D_between_7 (by decide)))) (rGoE (p2 := 15) (rI d_D_between_10 rfl) d_D_between_11 (by decide)) (rI d_D_between_14 rfl))) d_D_between_15 rfl))
noncomputable def f_D_between : List zV → zMem → Int
  | [.inl a, .inl b, .inl c], μ => zbp (b ≤ a ∧ a ≤ c)
  | _, _ => 0
def g_D_between : List zV → zMem → Prop
  | [.inl a, .inl b, .inl c], μ => (True)
  | _, _ => False
theorem p_D_between : zPu y_D_between 1 f_D_between g_D_between := by
  intro as μ h
  unfold g_D_between at h
  split at h
  · next a b c =>
    refine zSp.ss [vi a, vi b, vi c] rfl (w_D_between (Nat.le_refl _)) rfl rfl ?_
    (try simp only [zit_e, Bool.and_eq_true, Bool.or_eq_true, Bool.not_eq_true', Bool.and_eq_false_iff, Bool.or_eq_false_iff, Bool.not_eq_false', zbe, zdt, zdf, zb2_p, zbp_0, zbp_1, zbp_inj, zbp_01, Bool.true_eq_false, Bool.false_eq_true, true_and, and_true, Decidable.not_not, Classical.not_not, implies_true, List.nil_append, List.cons_append, List.append_assoc, Option.some.injEq, Sum.inl.injEq, zSw_c, zSw_n]); (try simp only [zit_e, Bool.and_eq_true, Bool.or_eq_true, Bool.not_eq_true', Bool.and_eq_false_iff, Bool.or_eq_false_iff, Bool.not_eq_false', zbe, zdt, zdf, zb2_p, zbp_0, zbp_1, zbp_inj, zbp_01, Bool.true_eq_false, Bool.false_eq_true, true_and, and_true, Decidable.not_not, Classical.not_not, implies_true, List.nil_append, List.cons_append, List.append_assoc, Option.some.injEq, Sum.inl.injEq, zSw_c, zSw_n, f_D_between]); (try simp only [zi_cs, zi_c0, zii_cs, zii_c0, zl_cs, zl_c0, zll_cs, zll_c0, zr_cs, zr_c0, zrr_cs, zrr_c0, zxs_cs, zxs_c0, zxx_cs, zxx_c0, zfree_c0, zfree_c1, zfree_cs, zfree_cz, zlong_i, zlong_r, zlong_x, zset_0, zset_s, true_and, and_true, Option.some.injEq, Sum.inl.injEq, Sum.inr.injEq, zb2_p, zbp_0, zbp_1, zbp_inj, zbp_01, Nat.zero_add, Nat.reduceAdd, implies_true, List.nil_append, List.cons_append, List.append_assoc, Int.not_lt, Int.not_le, Decidable.not_not, Int.zero_add, Int.reduceLE, Int.reduceLT, Int.reduceEq, Int.reduceNe, Int.reduceAdd, Int.reduceSub, Int.reduceMul, Int.reduceNeg, Int.reduceToNat, Nat.reduceMul, Nat.reduceLT, Nat.reduceEqDiff, and_self, ite_true, ite_false, zx1, zx2, zRecv, List.length_cons, List.length_nil, ne_eq, not_true_eq_false, not_false_eq_true, true_or, or_true, or_false, false_or, and_false, false_and, zf01, zf10, reduceCtorEq, zSw_c, zSw_n, zm_r, zit_T, zit_F, false_implies, true_implies, f_D_between])
    omega
  · exact h.elim
def y_M_lies : zMt := (⟨"DebtDoorsModel", "lies", "(III)Z"⟩, prog_14_method_1_code, 3, some .boolean)
theorem d_M_lies_0 : decode prog_14_method_1_code 0 = .ok (.iload_n 0, 1) := by decide +kernel
theorem d_M_lies_1 : decode prog_14_method_1_code 1 = .ok (.iload_n 1, 1) := by decide +kernel
theorem d_M_lies_2 : decode prog_14_method_1_code 2 = .ok (.if_icmp .lt 12, 3) := by decide +kernel
theorem d_M_lies_5 : decode prog_14_method_1_code 5 = .ok (.iload_n 0, 1) := by decide +kernel
theorem d_M_lies_6 : decode prog_14_method_1_code 6 = .ok (.iload_n 2, 1) := by decide +kernel
theorem d_M_lies_7 : decode prog_14_method_1_code 7 = .ok (.if_icmp .gt 7, 3) := by decide +kernel
theorem d_M_lies_10 : decode prog_14_method_1_code 10 = .ok (.iconst 1, 1) := by decide +kernel
theorem d_M_lies_11 : decode prog_14_method_1_code 11 = .ok (.goto 4, 3) := by decide +kernel
theorem d_M_lies_14 : decode prog_14_method_1_code 14 = .ok (.iconst 0, 1) := by decide +kernel
theorem d_M_lies_15 : decode prog_14_method_1_code 15 = .ok (.ireturn, 1) := by decide +kernel
def w_M_lies {d : Nat} (hd : 1 ≤ d) := (show SS ("DebtDoorsModel", prog_14_method_1_code, 3) (some .boolean) d 0 0 0 0 _ from (sRz (xE (rTb (rAnd (mm := 5) (rNot (rJ2 (tgt := 14) j_lt (rIn 0 d_M_lies_0 rfl) (rIn 1 d_M_lies_1 rfl) d_M_lies_2 (by decide))) (rNot (rJ2 (tgt := 14) j_gt (rIn 0 d_M_lies_5 rfl) (rIn 2 d_M_lies_6 rfl) d_M_lies_7 (by decide)))) (rGoE (p2 := 15) (rI d_M_lies_10 rfl) d_M_lies_11 (by decide)) (rI d_M_lies_14 rfl))) d_M_lies_15 rfl))
noncomputable def f_M_lies : List zV → zMem → Int
  | [.inl a, .inl b, .inl c], μ => zbp (b ≤ a ∧ a ≤ c)
  | _, _ => 0
def g_M_lies : List zV → zMem → Prop
  | [.inl a, .inl b, .inl c], μ => (True)
  | _, _ => False
theorem p_M_lies : zPu y_M_lies 1 f_M_lies g_M_lies := by
  intro as μ h
  unfold g_M_lies at h
  split at h
  · next a b c =>
    refine zSp.ss [vi a, vi b, vi c] rfl (w_M_lies (Nat.le_refl _)) rfl rfl ?_
    (try simp only [zit_e, Bool.and_eq_true, Bool.or_eq_true, Bool.not_eq_true', Bool.and_eq_false_iff, Bool.or_eq_false_iff, Bool.not_eq_false', zbe, zdt, zdf, zb2_p, zbp_0, zbp_1, zbp_inj, zbp_01, Bool.true_eq_false, Bool.false_eq_true, true_and, and_true, Decidable.not_not, Classical.not_not, implies_true, List.nil_append, List.cons_append, List.append_assoc, Option.some.injEq, Sum.inl.injEq, zSw_c, zSw_n]); (try simp only [zit_e, Bool.and_eq_true, Bool.or_eq_true, Bool.not_eq_true', Bool.and_eq_false_iff, Bool.or_eq_false_iff, Bool.not_eq_false', zbe, zdt, zdf, zb2_p, zbp_0, zbp_1, zbp_inj, zbp_01, Bool.true_eq_false, Bool.false_eq_true, true_and, and_true, Decidable.not_not, Classical.not_not, implies_true, List.nil_append, List.cons_append, List.append_assoc, Option.some.injEq, Sum.inl.injEq, zSw_c, zSw_n, f_M_lies]); (try simp only [zi_cs, zi_c0, zii_cs, zii_c0, zl_cs, zl_c0, zll_cs, zll_c0, zr_cs, zr_c0, zrr_cs, zrr_c0, zxs_cs, zxs_c0, zxx_cs, zxx_c0, zfree_c0, zfree_c1, zfree_cs, zfree_cz, zlong_i, zlong_r, zlong_x, zset_0, zset_s, true_and, and_true, Option.some.injEq, Sum.inl.injEq, Sum.inr.injEq, zb2_p, zbp_0, zbp_1, zbp_inj, zbp_01, Nat.zero_add, Nat.reduceAdd, implies_true, List.nil_append, List.cons_append, List.append_assoc, Int.not_lt, Int.not_le, Decidable.not_not, Int.zero_add, Int.reduceLE, Int.reduceLT, Int.reduceEq, Int.reduceNe, Int.reduceAdd, Int.reduceSub, Int.reduceMul, Int.reduceNeg, Int.reduceToNat, Nat.reduceMul, Nat.reduceLT, Nat.reduceEqDiff, and_self, ite_true, ite_false, zx1, zx2, zRecv, List.length_cons, List.length_nil, ne_eq, not_true_eq_false, not_false_eq_true, true_or, or_true, or_false, false_or, and_false, false_and, zf01, zf10, reduceCtorEq, zSw_c, zSw_n, zm_r, zit_T, zit_F, false_implies, true_implies, f_M_lies])
    omega
  · exact h.elim
def y_M_lesser : zMt := (⟨"DebtDoorsModel", "lesser", "(II)I"⟩, prog_14_method_7_code, 2, some .int)
theorem d_M_lesser_0 : decode prog_14_method_7_code 0 = .ok (.iload_n 0, 1) := by decide +kernel
theorem d_M_lesser_1 : decode prog_14_method_7_code 1 = .ok (.iload_n 1, 1) := by decide +kernel
theorem d_M_lesser_2 : decode prog_14_method_7_code 2 = .ok (.if_icmp .ge 7, 3) := by decide +kernel
theorem d_M_lesser_5 : decode prog_14_method_7_code 5 = .ok (.iload_n 0, 1) := by decide +kernel
theorem d_M_lesser_6 : decode prog_14_method_7_code 6 = .ok (.goto 4, 3) := by decide +kernel
theorem d_M_lesser_9 : decode prog_14_method_7_code 9 = .ok (.iload_n 1, 1) := by decide +kernel
theorem d_M_lesser_10 : decode prog_14_method_7_code 10 = .ok (.ireturn, 1) := by decide +kernel
def w_M_lesser {d : Nat} (hd : 1 ≤ d) := (show SS ("DebtDoorsModel", prog_14_method_7_code, 2) (some .int) d 0 0 0 0 _ from (sRi (xE (rT2 (rNot (rJ2 (tgt := 9) j_ge (rIn 0 d_M_lesser_0 rfl) (rIn 1 d_M_lesser_1 rfl) d_M_lesser_2 (by decide))) (rGoE (p2 := 10) (rIn 0 d_M_lesser_5 rfl) d_M_lesser_6 (by decide)) (rIn 1 d_M_lesser_9 rfl))) d_M_lesser_10 rfl))
noncomputable def f_M_lesser : List zV → zMem → Int
  | [.inl a, .inl b], μ => min a b
  | _, _ => 0
def g_M_lesser : List zV → zMem → Prop
  | [.inl a, .inl b], μ => (True)
  | _, _ => False
theorem p_M_lesser : zPu y_M_lesser 1 f_M_lesser g_M_lesser := by
  intro as μ h
  unfold g_M_lesser at h
  split at h
  · next a b =>
    refine zSp.ss [vi a, vi b] rfl (w_M_lesser (Nat.le_refl _)) rfl rfl ?_
    (try simp only [zit_e, Bool.and_eq_true, Bool.or_eq_true, Bool.not_eq_true', Bool.and_eq_false_iff, Bool.or_eq_false_iff, Bool.not_eq_false', zbe, zdt, zdf, zb2_p, zbp_0, zbp_1, zbp_inj, zbp_01, Bool.true_eq_false, Bool.false_eq_true, true_and, and_true, Decidable.not_not, Classical.not_not, implies_true, List.nil_append, List.cons_append, List.append_assoc, Option.some.injEq, Sum.inl.injEq, zSw_c, zSw_n]); (try simp only [zit_e, Bool.and_eq_true, Bool.or_eq_true, Bool.not_eq_true', Bool.and_eq_false_iff, Bool.or_eq_false_iff, Bool.not_eq_false', zbe, zdt, zdf, zb2_p, zbp_0, zbp_1, zbp_inj, zbp_01, Bool.true_eq_false, Bool.false_eq_true, true_and, and_true, Decidable.not_not, Classical.not_not, implies_true, List.nil_append, List.cons_append, List.append_assoc, Option.some.injEq, Sum.inl.injEq, zSw_c, zSw_n, f_M_lesser]); (try simp only [zi_cs, zi_c0, zii_cs, zii_c0, zl_cs, zl_c0, zll_cs, zll_c0, zr_cs, zr_c0, zrr_cs, zrr_c0, zxs_cs, zxs_c0, zxx_cs, zxx_c0, zfree_c0, zfree_c1, zfree_cs, zfree_cz, zlong_i, zlong_r, zlong_x, zset_0, zset_s, true_and, and_true, Option.some.injEq, Sum.inl.injEq, Sum.inr.injEq, zb2_p, zbp_0, zbp_1, zbp_inj, zbp_01, Nat.zero_add, Nat.reduceAdd, implies_true, List.nil_append, List.cons_append, List.append_assoc, Int.not_lt, Int.not_le, Decidable.not_not, Int.zero_add, Int.reduceLE, Int.reduceLT, Int.reduceEq, Int.reduceNe, Int.reduceAdd, Int.reduceSub, Int.reduceMul, Int.reduceNeg, Int.reduceToNat, Nat.reduceMul, Nat.reduceLT, Nat.reduceEqDiff, and_self, ite_true, ite_false, zx1, zx2, zRecv, List.length_cons, List.length_nil, ne_eq, not_true_eq_false, not_false_eq_true, true_or, or_true, or_false, false_or, and_false, false_and, zf01, zf10, reduceCtorEq, zSw_c, zSw_n, zm_r, zit_T, zit_F, false_implies, true_implies, f_M_lesser])
    by_cases h1 : a < b <;> simp [h1, zit] <;> omega
  · exact h.elim
theorem nk_12_2 : zNk 12 2 = none := rfl
def y_M_people : zMt := (⟨"DebtDoorsModel", "people", "()I"⟩, prog_14_method_13_code, 1, some .int)
theorem d_M_people_0 : decode prog_14_method_13_code 0 = .ok (.aload_n 0, 1) := by decide +kernel
theorem d_M_people_1 : decode prog_14_method_13_code 1 = .ok (.getfield 24, 3) := by decide +kernel
theorem d_M_people_4 : decode prog_14_method_13_code 4 = .ok (.sipush 152, 3) := by decide +kernel
theorem d_M_people_7 : decode prog_14_method_13_code 7 = .ok (.iaload, 1) := by decide +kernel
theorem d_M_people_8 : decode prog_14_method_13_code 8 = .ok (.ireturn, 1) := by decide +kernel
def w_M_people {d : Nat} (hd : 1 ≤ d) := (show SS ("DebtDoorsModel", prog_14_method_13_code, 1) (some .int) d 0 0 0 0 _ from (sRi (xE (rIa (rFr fl_M_24 nk_12_2 (rAn 0 d_M_people_0 rfl) d_M_people_1) (rSi d_M_people_4 rfl) d_M_people_7)) d_M_people_8 rfl))
noncomputable def f_M_people : List zV → zMem → Int
  | [.inr (.inr (.inl q0))], μ => μ 357 152
  | _, _ => 0
def g_M_people : List zV → zMem → Prop
  | [.inr (.inr (.inl q0))], μ => q0 = 355 ∧ (True)
  | _, _ => False
theorem p_M_people : zPu y_M_people 1 f_M_people g_M_people := by
  intro as μ h
  unfold g_M_people at h
  split at h
  · next q0 =>
    obtain ⟨rfl, h⟩ := h
    refine zSp.ss [vr 355] rfl (w_M_people (Nat.le_refl _)) rfl rfl ?_
    (try simp only [zit_e, Bool.and_eq_true, Bool.or_eq_true, Bool.not_eq_true', Bool.and_eq_false_iff, Bool.or_eq_false_iff, Bool.not_eq_false', zbe, zdt, zdf, zb2_p, zbp_0, zbp_1, zbp_inj, zbp_01, Bool.true_eq_false, Bool.false_eq_true, true_and, and_true, Decidable.not_not, Classical.not_not, implies_true, List.nil_append, List.cons_append, List.append_assoc, Option.some.injEq, Sum.inl.injEq, zSw_c, zSw_n]); (try simp only [zit_e, Bool.and_eq_true, Bool.or_eq_true, Bool.not_eq_true', Bool.and_eq_false_iff, Bool.or_eq_false_iff, Bool.not_eq_false', zbe, zdt, zdf, zb2_p, zbp_0, zbp_1, zbp_inj, zbp_01, Bool.true_eq_false, Bool.false_eq_true, true_and, and_true, Decidable.not_not, Classical.not_not, implies_true, List.nil_append, List.cons_append, List.append_assoc, Option.some.injEq, Sum.inl.injEq, zSw_c, zSw_n, f_M_people, zc_355]); (try simp only [zi_cs, zi_c0, zii_cs, zii_c0, zl_cs, zl_c0, zll_cs, zll_c0, zr_cs, zr_c0, zrr_cs, zrr_c0, zxs_cs, zxs_c0, zxx_cs, zxx_c0, zfree_c0, zfree_c1, zfree_cs, zfree_cz, zlong_i, zlong_r, zlong_x, zset_0, zset_s, true_and, and_true, Option.some.injEq, Sum.inl.injEq, Sum.inr.injEq, zb2_p, zbp_0, zbp_1, zbp_inj, zbp_01, Nat.zero_add, Nat.reduceAdd, implies_true, List.nil_append, List.cons_append, List.append_assoc, Int.not_lt, Int.not_le, Decidable.not_not, Int.zero_add, Int.reduceLE, Int.reduceLT, Int.reduceEq, Int.reduceNe, Int.reduceAdd, Int.reduceSub, Int.reduceMul, Int.reduceNeg, Int.reduceToNat, Nat.reduceMul, Nat.reduceLT, Nat.reduceEqDiff, and_self, ite_true, ite_false, zx1, zx2, zRecv, List.length_cons, List.length_nil, ne_eq, not_true_eq_false, not_false_eq_true, true_or, or_true, or_false, false_or, and_false, false_and, zf01, zf10, reduceCtorEq, zSw_c, zSw_n, zm_r, zit_T, zit_F, false_implies, true_implies, f_M_people, zc_355])
  · exact h.elim
def y_M_debts : zMt := (⟨"DebtDoorsModel", "debts", "()I"⟩, prog_14_method_14_code, 1, some .int)
theorem d_M_debts_0 : decode prog_14_method_14_code 0 = .ok (.aload_n 0, 1) := by decide +kernel
theorem d_M_debts_1 : decode prog_14_method_14_code 1 = .ok (.getfield 24, 3) := by decide +kernel
theorem d_M_debts_4 : decode prog_14_method_14_code 4 = .ok (.bipush 71, 2) := by decide +kernel
theorem d_M_debts_6 : decode prog_14_method_14_code 6 = .ok (.iaload, 1) := by decide +kernel
theorem d_M_debts_7 : decode prog_14_method_14_code 7 = .ok (.ireturn, 1) := by decide +kernel
def w_M_debts {d : Nat} (hd : 1 ≤ d) := (show SS ("DebtDoorsModel", prog_14_method_14_code, 1) (some .int) d 0 0 0 0 _ from (sRi (xE (rIa (rFr fl_M_24 nk_12_2 (rAn 0 d_M_debts_0 rfl) d_M_debts_1) (rB d_M_debts_4 rfl) d_M_debts_6)) d_M_debts_7 rfl))
noncomputable def f_M_debts : List zV → zMem → Int
  | [.inr (.inr (.inl q0))], μ => μ 357 71
  | _, _ => 0
def g_M_debts : List zV → zMem → Prop
  | [.inr (.inr (.inl q0))], μ => q0 = 355 ∧ (True)
  | _, _ => False
theorem p_M_debts : zPu y_M_debts 1 f_M_debts g_M_debts := by
  intro as μ h
  unfold g_M_debts at h
  split at h
  · next q0 =>
    obtain ⟨rfl, h⟩ := h
    refine zSp.ss [vr 355] rfl (w_M_debts (Nat.le_refl _)) rfl rfl ?_
    (try simp only [zit_e, Bool.and_eq_true, Bool.or_eq_true, Bool.not_eq_true', Bool.and_eq_false_iff, Bool.or_eq_false_iff, Bool.not_eq_false', zbe, zdt, zdf, zb2_p, zbp_0, zbp_1, zbp_inj, zbp_01, Bool.true_eq_false, Bool.false_eq_true, true_and, and_true, Decidable.not_not, Classical.not_not, implies_true, List.nil_append, List.cons_append, List.append_assoc, Option.some.injEq, Sum.inl.injEq, zSw_c, zSw_n]); (try simp only [zit_e, Bool.and_eq_true, Bool.or_eq_true, Bool.not_eq_true', Bool.and_eq_false_iff, Bool.or_eq_false_iff, Bool.not_eq_false', zbe, zdt, zdf, zb2_p, zbp_0, zbp_1, zbp_inj, zbp_01, Bool.true_eq_false, Bool.false_eq_true, true_and, and_true, Decidable.not_not, Classical.not_not, implies_true, List.nil_append, List.cons_append, List.append_assoc, Option.some.injEq, Sum.inl.injEq, zSw_c, zSw_n, f_M_debts, zc_355]); (try simp only [zi_cs, zi_c0, zii_cs, zii_c0, zl_cs, zl_c0, zll_cs, zll_c0, zr_cs, zr_c0, zrr_cs, zrr_c0, zxs_cs, zxs_c0, zxx_cs, zxx_c0, zfree_c0, zfree_c1, zfree_cs, zfree_cz, zlong_i, zlong_r, zlong_x, zset_0, zset_s, true_and, and_true, Option.some.injEq, Sum.inl.injEq, Sum.inr.injEq, zb2_p, zbp_0, zbp_1, zbp_inj, zbp_01, Nat.zero_add, Nat.reduceAdd, implies_true, List.nil_append, List.cons_append, List.append_assoc, Int.not_lt, Int.not_le, Decidable.not_not, Int.zero_add, Int.reduceLE, Int.reduceLT, Int.reduceEq, Int.reduceNe, Int.reduceAdd, Int.reduceSub, Int.reduceMul, Int.reduceNeg, Int.reduceToNat, Nat.reduceMul, Nat.reduceLT, Nat.reduceEqDiff, and_self, ite_true, ite_false, zx1, zx2, zRecv, List.length_cons, List.length_nil, ne_eq, not_true_eq_false, not_false_eq_true, true_or, or_true, or_false, false_or, and_false, false_and, zf01, zf10, reduceCtorEq, zSw_c, zSw_n, zm_r, zit_T, zit_F, false_implies, true_implies, f_M_debts, zc_355])
  · exact h.elim
theorem fl_D_195 : zFl "DebtDoors" 195 11 16 := ⟨_, rfl, by decide, (zTb_in 550 (by decide +kernel) (by decide +kernel)), rfl⟩
theorem nk_11_16 : zNk 11 16 = some 0 := rfl
def y_D_blots : zMt := (⟨"DebtDoors", "blots", "()I"⟩, prog_1_method_15_code, 1, some .int)
theorem d_D_blots_0 : decode prog_1_method_15_code 0 = .ok (.aload_n 0, 1) := by decide +kernel
theorem d_D_blots_1 : decode prog_1_method_15_code 1 = .ok (.getfield 195, 3) := by decide +kernel
theorem d_D_blots_4 : decode prog_1_method_15_code 4 = .ok (.ireturn, 1) := by decide +kernel
def w_D_blots {d : Nat} (hd : 1 ≤ d) := (show SS ("DebtDoors", prog_1_method_15_code, 1) (some .int) d 0 0 0 0 _ from (sRi (xE (rF 16 fl_D_195 nk_11_16 (rAn 0 d_D_blots_0 rfl) d_D_blots_1 rfl)) d_D_blots_4 rfl))
noncomputable def f_D_blots : List zV → zMem → Int
  | [.inr (.inr (.inl q0))], μ => μ 0 16
  | _, _ => 0
def g_D_blots : List zV → zMem → Prop
  | [.inr (.inr (.inl q0))], μ => q0 = 0 ∧ (True)
  | _, _ => False
theorem p_D_blots : zPu y_D_blots 1 f_D_blots g_D_blots := by
  intro as μ h
  unfold g_D_blots at h
  split at h
  · next q0 =>
    obtain ⟨rfl, h⟩ := h
    refine zSp.ss [vr 0] rfl (w_D_blots (Nat.le_refl _)) rfl rfl ?_
    (try simp only [zit_e, Bool.and_eq_true, Bool.or_eq_true, Bool.not_eq_true', Bool.and_eq_false_iff, Bool.or_eq_false_iff, Bool.not_eq_false', zbe, zdt, zdf, zb2_p, zbp_0, zbp_1, zbp_inj, zbp_01, Bool.true_eq_false, Bool.false_eq_true, true_and, and_true, Decidable.not_not, Classical.not_not, implies_true, List.nil_append, List.cons_append, List.append_assoc, Option.some.injEq, Sum.inl.injEq, zSw_c, zSw_n]); (try simp only [zit_e, Bool.and_eq_true, Bool.or_eq_true, Bool.not_eq_true', Bool.and_eq_false_iff, Bool.or_eq_false_iff, Bool.not_eq_false', zbe, zdt, zdf, zb2_p, zbp_0, zbp_1, zbp_inj, zbp_01, Bool.true_eq_false, Bool.false_eq_true, true_and, and_true, Decidable.not_not, Classical.not_not, implies_true, List.nil_append, List.cons_append, List.append_assoc, Option.some.injEq, Sum.inl.injEq, zSw_c, zSw_n, f_D_blots, zc_0]); (try simp only [zi_cs, zi_c0, zii_cs, zii_c0, zl_cs, zl_c0, zll_cs, zll_c0, zr_cs, zr_c0, zrr_cs, zrr_c0, zxs_cs, zxs_c0, zxx_cs, zxx_c0, zfree_c0, zfree_c1, zfree_cs, zfree_cz, zlong_i, zlong_r, zlong_x, zset_0, zset_s, true_and, and_true, Option.some.injEq, Sum.inl.injEq, Sum.inr.injEq, zb2_p, zbp_0, zbp_1, zbp_inj, zbp_01, Nat.zero_add, Nat.reduceAdd, implies_true, List.nil_append, List.cons_append, List.append_assoc, Int.not_lt, Int.not_le, Decidable.not_not, Int.zero_add, Int.reduceLE, Int.reduceLT, Int.reduceEq, Int.reduceNe, Int.reduceAdd, Int.reduceSub, Int.reduceMul, Int.reduceNeg, Int.reduceToNat, Nat.reduceMul, Nat.reduceLT, Nat.reduceEqDiff, and_self, ite_true, ite_false, zx1, zx2, zRecv, List.length_cons, List.length_nil, ne_eq, not_true_eq_false, not_false_eq_true, true_or, or_true, or_false, false_or, and_false, false_and, zf01, zf10, reduceCtorEq, zSw_c, zSw_n, zm_r, zit_T, zit_F, false_implies, true_implies, f_D_blots, zc_0])
  · exact h.elim
def y_D_columnPlace : zMt := (⟨"DebtDoors", "columnPlace", "(II)I"⟩, prog_1_method_72_code, 2, some .int)
theorem d_D_columnPlace_0 : decode prog_1_method_72_code 0 = .ok (.iconst 1, 1) := by decide +kernel
theorem d_D_columnPlace_1 : decode prog_1_method_72_code 1 = .ok (.iload_n 0, 1) := by decide +kernel
theorem d_D_columnPlace_2 : decode prog_1_method_72_code 2 = .ok (.bipush 7, 2) := by decide +kernel
theorem d_D_columnPlace_4 : decode prog_1_method_72_code 4 = .ok (.imul, 1) := by decide +kernel
theorem d_D_columnPlace_5 : decode prog_1_method_72_code 5 = .ok (.iadd, 1) := by decide +kernel
theorem d_D_columnPlace_6 : decode prog_1_method_72_code 6 = .ok (.iload_n 1, 1) := by decide +kernel
theorem d_D_columnPlace_7 : decode prog_1_method_72_code 7 = .ok (.iadd, 1) := by decide +kernel
theorem d_D_columnPlace_8 : decode prog_1_method_72_code 8 = .ok (.ireturn, 1) := by decide +kernel
def w_D_columnPlace {d : Nat} (hd : 1 ≤ d) := (show SS ("DebtDoors", prog_1_method_72_code, 2) (some .int) d 0 0 0 0 _ from (sRi (xE (r2 o_add (r2 o_add (rI d_D_columnPlace_0 rfl) (r2 o_mul (rIn 0 d_D_columnPlace_1 rfl) (rB d_D_columnPlace_2 rfl) d_D_columnPlace_4) d_D_columnPlace_5) (rIn 1 d_D_columnPlace_6 rfl) d_D_columnPlace_7)) d_D_columnPlace_8 rfl))
noncomputable def f_D_columnPlace : List zV → zMem → Int
  | [.inl a, .inl b], μ => 1 + a * 7 + b
  | _, _ => 0
def g_D_columnPlace : List zV → zMem → Prop
  | [.inl a, .inl b], μ => (0 ≤ a ∧ a ≤ 1000 ∧ 0 ≤ b ∧ b ≤ 1000)
  | _, _ => False
theorem p_D_columnPlace : zPu y_D_columnPlace 1 f_D_columnPlace g_D_columnPlace := by
  intro as μ h
  unfold g_D_columnPlace at h
  split at h
  · next a b =>
    refine zSp.ss [vi a, vi b] rfl (w_D_columnPlace (Nat.le_refl _)) rfl rfl ?_
    (try simp only [zit_e, Bool.and_eq_true, Bool.or_eq_true, Bool.not_eq_true', Bool.and_eq_false_iff, Bool.or_eq_false_iff, Bool.not_eq_false', zbe, zdt, zdf, zb2_p, zbp_0, zbp_1, zbp_inj, zbp_01, Bool.true_eq_false, Bool.false_eq_true, true_and, and_true, Decidable.not_not, Classical.not_not, implies_true, List.nil_append, List.cons_append, List.append_assoc, Option.some.injEq, Sum.inl.injEq, zSw_c, zSw_n]); (try simp only [zit_e, Bool.and_eq_true, Bool.or_eq_true, Bool.not_eq_true', Bool.and_eq_false_iff, Bool.or_eq_false_iff, Bool.not_eq_false', zbe, zdt, zdf, zb2_p, zbp_0, zbp_1, zbp_inj, zbp_01, Bool.true_eq_false, Bool.false_eq_true, true_and, and_true, Decidable.not_not, Classical.not_not, implies_true, List.nil_append, List.cons_append, List.append_assoc, Option.some.injEq, Sum.inl.injEq, zSw_c, zSw_n, f_D_columnPlace]); (try simp only [zi_cs, zi_c0, zii_cs, zii_c0, zl_cs, zl_c0, zll_cs, zll_c0, zr_cs, zr_c0, zrr_cs, zrr_c0, zxs_cs, zxs_c0, zxx_cs, zxx_c0, zfree_c0, zfree_c1, zfree_cs, zfree_cz, zlong_i, zlong_r, zlong_x, zset_0, zset_s, true_and, and_true, Option.some.injEq, Sum.inl.injEq, Sum.inr.injEq, zb2_p, zbp_0, zbp_1, zbp_inj, zbp_01, Nat.zero_add, Nat.reduceAdd, implies_true, List.nil_append, List.cons_append, List.append_assoc, Int.not_lt, Int.not_le, Decidable.not_not, Int.zero_add, Int.reduceLE, Int.reduceLT, Int.reduceEq, Int.reduceNe, Int.reduceAdd, Int.reduceSub, Int.reduceMul, Int.reduceNeg, Int.reduceToNat, Nat.reduceMul, Nat.reduceLT, Nat.reduceEqDiff, and_self, ite_true, ite_false, zx1, zx2, zRecv, List.length_cons, List.length_nil, ne_eq, not_true_eq_false, not_false_eq_true, true_or, or_true, or_false, false_or, and_false, false_and, zf01, zf10, reduceCtorEq, zSw_c, zSw_n, zm_r, zit_T, zit_F, false_implies, true_implies, f_D_columnPlace])
    ((try simp only [zI_e]); (first | done | omega | skip))
  · exact h.elim
theorem fl_D_431 : zFl "DebtDoors" 431 11 15 := ⟨_, rfl, by decide, (zTb_in 549 (by decide +kernel) (by decide +kernel)), rfl⟩
theorem nk_11_15 : zNk 11 15 = some 0 := rfl
def y_D_status : zMt := (⟨"DebtDoors", "status", "()I"⟩, prog_1_method_66_code, 1, some .int)
theorem d_D_status_0 : decode prog_1_method_66_code 0 = .ok (.aload_n 0, 1) := by decide +kernel
theorem d_D_status_1 : decode prog_1_method_66_code 1 = .ok (.getfield 431, 3) := by decide +kernel
theorem d_D_status_4 : decode prog_1_method_66_code 4 = .ok (.ireturn, 1) := by decide +kernel
def w_D_status {d : Nat} (hd : 1 ≤ d) := (show SS ("DebtDoors", prog_1_method_66_code, 1) (some .int) d 0 0 0 0 _ from (sRi (xE (rF 15 fl_D_431 nk_11_15 (rAn 0 d_D_status_0 rfl) d_D_status_1 rfl)) d_D_status_4 rfl))
noncomputable def f_D_status : List zV → zMem → Int
  | [.inr (.inr (.inl q0))], μ => μ 0 15
  | _, _ => 0
def g_D_status : List zV → zMem → Prop
  | [.inr (.inr (.inl q0))], μ => q0 = 0 ∧ (True)
  | _, _ => False
theorem p_D_status : zPu y_D_status 1 f_D_status g_D_status := by
  intro as μ h
  unfold g_D_status at h
  split at h
  · next q0 =>
    obtain ⟨rfl, h⟩ := h
    refine zSp.ss [vr 0] rfl (w_D_status (Nat.le_refl _)) rfl rfl ?_
    (try simp only [zit_e, Bool.and_eq_true, Bool.or_eq_true, Bool.not_eq_true', Bool.and_eq_false_iff, Bool.or_eq_false_iff, Bool.not_eq_false', zbe, zdt, zdf, zb2_p, zbp_0, zbp_1, zbp_inj, zbp_01, Bool.true_eq_false, Bool.false_eq_true, true_and, and_true, Decidable.not_not, Classical.not_not, implies_true, List.nil_append, List.cons_append, List.append_assoc, Option.some.injEq, Sum.inl.injEq, zSw_c, zSw_n]); (try simp only [zit_e, Bool.and_eq_true, Bool.or_eq_true, Bool.not_eq_true', Bool.and_eq_false_iff, Bool.or_eq_false_iff, Bool.not_eq_false', zbe, zdt, zdf, zb2_p, zbp_0, zbp_1, zbp_inj, zbp_01, Bool.true_eq_false, Bool.false_eq_true, true_and, and_true, Decidable.not_not, Classical.not_not, implies_true, List.nil_append, List.cons_append, List.append_assoc, Option.some.injEq, Sum.inl.injEq, zSw_c, zSw_n, f_D_status, zc_0]); (try simp only [zi_cs, zi_c0, zii_cs, zii_c0, zl_cs, zl_c0, zll_cs, zll_c0, zr_cs, zr_c0, zrr_cs, zrr_c0, zxs_cs, zxs_c0, zxx_cs, zxx_c0, zfree_c0, zfree_c1, zfree_cs, zfree_cz, zlong_i, zlong_r, zlong_x, zset_0, zset_s, true_and, and_true, Option.some.injEq, Sum.inl.injEq, Sum.inr.injEq, zb2_p, zbp_0, zbp_1, zbp_inj, zbp_01, Nat.zero_add, Nat.reduceAdd, implies_true, List.nil_append, List.cons_append, List.append_assoc, Int.not_lt, Int.not_le, Decidable.not_not, Int.zero_add, Int.reduceLE, Int.reduceLT, Int.reduceEq, Int.reduceNe, Int.reduceAdd, Int.reduceSub, Int.reduceMul, Int.reduceNeg, Int.reduceToNat, Nat.reduceMul, Nat.reduceLT, Nat.reduceEqDiff, and_self, ite_true, ite_false, zx1, zx2, zRecv, List.length_cons, List.length_nil, ne_eq, not_true_eq_false, not_false_eq_true, true_or, or_true, or_false, false_or, and_false, false_and, zf01, zf10, reduceCtorEq, zSw_c, zSw_n, zm_r, zit_T, zit_F, false_implies, true_implies, f_D_status, zc_0])
  · exact h.elim
theorem nk_11_17 : zNk 11 17 = some 0 := rfl
def y_D_stopped : zMt := (⟨"DebtDoors", "stopped", "()I"⟩, prog_1_method_23_code, 1, some .int)
theorem d_D_stopped_0 : decode prog_1_method_23_code 0 = .ok (.aload_n 0, 1) := by decide +kernel
theorem d_D_stopped_1 : decode prog_1_method_23_code 1 = .ok (.getfield 97, 3) := by decide +kernel
theorem d_D_stopped_4 : decode prog_1_method_23_code 4 = .ok (.ireturn, 1) := by decide +kernel
def w_D_stopped {d : Nat} (hd : 1 ≤ d) := (show SS ("DebtDoors", prog_1_method_23_code, 1) (some .int) d 0 0 0 0 _ from (sRi (xE (rF 17 fl_D_97 nk_11_17 (rAn 0 d_D_stopped_0 rfl) d_D_stopped_1 rfl)) d_D_stopped_4 rfl))
noncomputable def f_D_stopped : List zV → zMem → Int
  | [.inr (.inr (.inl q0))], μ => μ 0 17
  | _, _ => 0
def g_D_stopped : List zV → zMem → Prop
  | [.inr (.inr (.inl q0))], μ => q0 = 0 ∧ (True)
  | _, _ => False
theorem p_D_stopped : zPu y_D_stopped 1 f_D_stopped g_D_stopped := by
  intro as μ h
  unfold g_D_stopped at h
  split at h
  · next q0 =>
    obtain ⟨rfl, h⟩ := h
    refine zSp.ss [vr 0] rfl (w_D_stopped (Nat.le_refl _)) rfl rfl ?_
    (try simp only [zit_e, Bool.and_eq_true, Bool.or_eq_true, Bool.not_eq_true', Bool.and_eq_false_iff, Bool.or_eq_false_iff, Bool.not_eq_false', zbe, zdt, zdf, zb2_p, zbp_0, zbp_1, zbp_inj, zbp_01, Bool.true_eq_false, Bool.false_eq_true, true_and, and_true, Decidable.not_not, Classical.not_not, implies_true, List.nil_append, List.cons_append, List.append_assoc, Option.some.injEq, Sum.inl.injEq, zSw_c, zSw_n]); (try simp only [zit_e, Bool.and_eq_true, Bool.or_eq_true, Bool.not_eq_true', Bool.and_eq_false_iff, Bool.or_eq_false_iff, Bool.not_eq_false', zbe, zdt, zdf, zb2_p, zbp_0, zbp_1, zbp_inj, zbp_01, Bool.true_eq_false, Bool.false_eq_true, true_and, and_true, Decidable.not_not, Classical.not_not, implies_true, List.nil_append, List.cons_append, List.append_assoc, Option.some.injEq, Sum.inl.injEq, zSw_c, zSw_n, f_D_stopped, zc_0]); (try simp only [zi_cs, zi_c0, zii_cs, zii_c0, zl_cs, zl_c0, zll_cs, zll_c0, zr_cs, zr_c0, zrr_cs, zrr_c0, zxs_cs, zxs_c0, zxx_cs, zxx_c0, zfree_c0, zfree_c1, zfree_cs, zfree_cz, zlong_i, zlong_r, zlong_x, zset_0, zset_s, true_and, and_true, Option.some.injEq, Sum.inl.injEq, Sum.inr.injEq, zb2_p, zbp_0, zbp_1, zbp_inj, zbp_01, Nat.zero_add, Nat.reduceAdd, implies_true, List.nil_append, List.cons_append, List.append_assoc, Int.not_lt, Int.not_le, Decidable.not_not, Int.zero_add, Int.reduceLE, Int.reduceLT, Int.reduceEq, Int.reduceNe, Int.reduceAdd, Int.reduceSub, Int.reduceMul, Int.reduceNeg, Int.reduceToNat, Nat.reduceMul, Nat.reduceLT, Nat.reduceEqDiff, and_self, ite_true, ite_false, zx1, zx2, zRecv, List.length_cons, List.length_nil, ne_eq, not_true_eq_false, not_false_eq_true, true_or, or_true, or_false, false_or, and_false, false_and, zf01, zf10, reduceCtorEq, zSw_c, zSw_n, zm_r, zit_T, zit_F, false_implies, true_implies, f_D_stopped, zc_0])
  · exact h.elim
theorem fl_D_283 : zFl "DebtDoors" 283 6 3 := ⟨_, rfl, by decide, (zTb_in 330 (by decide +kernel) (by decide +kernel)), rfl⟩
theorem nk_6_3 : zNk 6 3 = some 0 := rfl
theorem nk_11_6 : zNk 11 6 = none := rfl
def y_D_fault : zMt := (⟨"DebtDoors", "fault", "()I"⟩, prog_1_method_22_code, 1, some .int)
theorem d_D_fault_0 : decode prog_1_method_22_code 0 = .ok (.aload_n 0, 1) := by decide +kernel
theorem d_D_fault_1 : decode prog_1_method_22_code 1 = .ok (.getfield 44, 3) := by decide +kernel
theorem d_D_fault_4 : decode prog_1_method_22_code 4 = .ok (.getfield 283, 3) := by decide +kernel
theorem d_D_fault_7 : decode prog_1_method_22_code 7 = .ok (.ireturn, 1) := by decide +kernel
def w_D_fault {d : Nat} (hd : 1 ≤ d) := (show SS ("DebtDoors", prog_1_method_22_code, 1) (some .int) d 0 0 0 0 _ from (sRi (xE (rF 3 fl_D_283 nk_6_3 (rFr fl_D_44 nk_11_6 (rAn 0 d_D_fault_0 rfl) d_D_fault_1) d_D_fault_4 rfl)) d_D_fault_7 rfl))
noncomputable def f_D_fault : List zV → zMem → Int
  | [.inr (.inr (.inl q0))], μ => μ 321 3
  | _, _ => 0
def g_D_fault : List zV → zMem → Prop
  | [.inr (.inr (.inl q0))], μ => q0 = 0 ∧ (True)
  | _, _ => False
theorem p_D_fault : zPu y_D_fault 1 f_D_fault g_D_fault := by
  intro as μ h
  unfold g_D_fault at h
  split at h
  · next q0 =>
    obtain ⟨rfl, h⟩ := h
    refine zSp.ss [vr 0] rfl (w_D_fault (Nat.le_refl _)) rfl rfl ?_
    (try simp only [zit_e, Bool.and_eq_true, Bool.or_eq_true, Bool.not_eq_true', Bool.and_eq_false_iff, Bool.or_eq_false_iff, Bool.not_eq_false', zbe, zdt, zdf, zb2_p, zbp_0, zbp_1, zbp_inj, zbp_01, Bool.true_eq_false, Bool.false_eq_true, true_and, and_true, Decidable.not_not, Classical.not_not, implies_true, List.nil_append, List.cons_append, List.append_assoc, Option.some.injEq, Sum.inl.injEq, zSw_c, zSw_n]); (try simp only [zit_e, Bool.and_eq_true, Bool.or_eq_true, Bool.not_eq_true', Bool.and_eq_false_iff, Bool.or_eq_false_iff, Bool.not_eq_false', zbe, zdt, zdf, zb2_p, zbp_0, zbp_1, zbp_inj, zbp_01, Bool.true_eq_false, Bool.false_eq_true, true_and, and_true, Decidable.not_not, Classical.not_not, implies_true, List.nil_append, List.cons_append, List.append_assoc, Option.some.injEq, Sum.inl.injEq, zSw_c, zSw_n, f_D_fault, zc_0, zc_321]); (try simp only [zi_cs, zi_c0, zii_cs, zii_c0, zl_cs, zl_c0, zll_cs, zll_c0, zr_cs, zr_c0, zrr_cs, zrr_c0, zxs_cs, zxs_c0, zxx_cs, zxx_c0, zfree_c0, zfree_c1, zfree_cs, zfree_cz, zlong_i, zlong_r, zlong_x, zset_0, zset_s, true_and, and_true, Option.some.injEq, Sum.inl.injEq, Sum.inr.injEq, zb2_p, zbp_0, zbp_1, zbp_inj, zbp_01, Nat.zero_add, Nat.reduceAdd, implies_true, List.nil_append, List.cons_append, List.append_assoc, Int.not_lt, Int.not_le, Decidable.not_not, Int.zero_add, Int.reduceLE, Int.reduceLT, Int.reduceEq, Int.reduceNe, Int.reduceAdd, Int.reduceSub, Int.reduceMul, Int.reduceNeg, Int.reduceToNat, Nat.reduceMul, Nat.reduceLT, Nat.reduceEqDiff, and_self, ite_true, ite_false, zx1, zx2, zRecv, List.length_cons, List.length_nil, ne_eq, not_true_eq_false, not_false_eq_true, true_or, or_true, or_false, false_or, and_false, false_and, zf01, zf10, reduceCtorEq, zSw_c, zSw_n, zm_r, zit_T, zit_F, false_implies, true_implies, f_D_fault, zc_0, zc_321])
  · exact h.elim
theorem fl_M_184 : zFl "DebtDoorsModel" 184 12 6 := ⟨_, rfl, by decide, (zTb_in 1332 (by decide +kernel) (by decide +kernel)), rfl⟩
theorem nk_12_6 : zNk 12 6 = some 0 := rfl
def y_M_blots : zMt := (⟨"DebtDoorsModel", "blots", "()I"⟩, prog_14_method_34_code, 1, some .int)
theorem d_M_blots_0 : decode prog_14_method_34_code 0 = .ok (.aload_n 0, 1) := by decide +kernel
theorem d_M_blots_1 : decode prog_14_method_34_code 1 = .ok (.getfield 184, 3) := by decide +kernel
theorem d_M_blots_4 : decode prog_14_method_34_code 4 = .ok (.ireturn, 1) := by decide +kernel
def w_M_blots {d : Nat} (hd : 1 ≤ d) := (show SS ("DebtDoorsModel", prog_14_method_34_code, 1) (some .int) d 0 0 0 0 _ from (sRi (xE (rF 6 fl_M_184 nk_12_6 (rAn 0 d_M_blots_0 rfl) d_M_blots_1 rfl)) d_M_blots_4 rfl))
noncomputable def f_M_blots : List zV → zMem → Int
  | [.inr (.inr (.inl q0))], μ => μ 355 6
  | _, _ => 0
def g_M_blots : List zV → zMem → Prop
  | [.inr (.inr (.inl q0))], μ => q0 = 355 ∧ (True)
  | _, _ => False
theorem p_M_blots : zPu y_M_blots 1 f_M_blots g_M_blots := by
  intro as μ h
  unfold g_M_blots at h
  split at h
  · next q0 =>
    obtain ⟨rfl, h⟩ := h
    refine zSp.ss [vr 355] rfl (w_M_blots (Nat.le_refl _)) rfl rfl ?_
    (try simp only [zit_e, Bool.and_eq_true, Bool.or_eq_true, Bool.not_eq_true', Bool.and_eq_false_iff, Bool.or_eq_false_iff, Bool.not_eq_false', zbe, zdt, zdf, zb2_p, zbp_0, zbp_1, zbp_inj, zbp_01, Bool.true_eq_false, Bool.false_eq_true, true_and, and_true, Decidable.not_not, Classical.not_not, implies_true, List.nil_append, List.cons_append, List.append_assoc, Option.some.injEq, Sum.inl.injEq, zSw_c, zSw_n]); (try simp only [zit_e, Bool.and_eq_true, Bool.or_eq_true, Bool.not_eq_true', Bool.and_eq_false_iff, Bool.or_eq_false_iff, Bool.not_eq_false', zbe, zdt, zdf, zb2_p, zbp_0, zbp_1, zbp_inj, zbp_01, Bool.true_eq_false, Bool.false_eq_true, true_and, and_true, Decidable.not_not, Classical.not_not, implies_true, List.nil_append, List.cons_append, List.append_assoc, Option.some.injEq, Sum.inl.injEq, zSw_c, zSw_n, f_M_blots, zc_355]); (try simp only [zi_cs, zi_c0, zii_cs, zii_c0, zl_cs, zl_c0, zll_cs, zll_c0, zr_cs, zr_c0, zrr_cs, zrr_c0, zxs_cs, zxs_c0, zxx_cs, zxx_c0, zfree_c0, zfree_c1, zfree_cs, zfree_cz, zlong_i, zlong_r, zlong_x, zset_0, zset_s, true_and, and_true, Option.some.injEq, Sum.inl.injEq, Sum.inr.injEq, zb2_p, zbp_0, zbp_1, zbp_inj, zbp_01, Nat.zero_add, Nat.reduceAdd, implies_true, List.nil_append, List.cons_append, List.append_assoc, Int.not_lt, Int.not_le, Decidable.not_not, Int.zero_add, Int.reduceLE, Int.reduceLT, Int.reduceEq, Int.reduceNe, Int.reduceAdd, Int.reduceSub, Int.reduceMul, Int.reduceNeg, Int.reduceToNat, Nat.reduceMul, Nat.reduceLT, Nat.reduceEqDiff, and_self, ite_true, ite_false, zx1, zx2, zRecv, List.length_cons, List.length_nil, ne_eq, not_true_eq_false, not_false_eq_true, true_or, or_true, or_false, false_or, and_false, false_and, zf01, zf10, reduceCtorEq, zSw_c, zSw_n, zm_r, zit_T, zit_F, false_implies, true_implies, f_M_blots, zc_355])
  · exact h.elim
theorem nk_12_12 : zNk 12 12 = some 0 := rfl
def y_M_fault : zMt := (⟨"DebtDoorsModel", "fault", "()I"⟩, prog_14_method_61_code, 1, some .int)
theorem d_M_fault_0 : decode prog_14_method_61_code 0 = .ok (.aload_n 0, 1) := by decide +kernel
theorem d_M_fault_1 : decode prog_14_method_61_code 1 = .ok (.getfield 47, 3) := by decide +kernel
theorem d_M_fault_4 : decode prog_14_method_61_code 4 = .ok (.ireturn, 1) := by decide +kernel
def w_M_fault {d : Nat} (hd : 1 ≤ d) := (show SS ("DebtDoorsModel", prog_14_method_61_code, 1) (some .int) d 0 0 0 0 _ from (sRi (xE (rF 12 fl_M_47 nk_12_12 (rAn 0 d_M_fault_0 rfl) d_M_fault_1 rfl)) d_M_fault_4 rfl))
noncomputable def f_M_fault : List zV → zMem → Int
  | [.inr (.inr (.inl q0))], μ => μ 355 12
  | _, _ => 0
def g_M_fault : List zV → zMem → Prop
  | [.inr (.inr (.inl q0))], μ => q0 = 355 ∧ (True)
  | _, _ => False
theorem p_M_fault : zPu y_M_fault 1 f_M_fault g_M_fault := by
  intro as μ h
  unfold g_M_fault at h
  split at h
  · next q0 =>
    obtain ⟨rfl, h⟩ := h
    refine zSp.ss [vr 355] rfl (w_M_fault (Nat.le_refl _)) rfl rfl ?_
    (try simp only [zit_e, Bool.and_eq_true, Bool.or_eq_true, Bool.not_eq_true', Bool.and_eq_false_iff, Bool.or_eq_false_iff, Bool.not_eq_false', zbe, zdt, zdf, zb2_p, zbp_0, zbp_1, zbp_inj, zbp_01, Bool.true_eq_false, Bool.false_eq_true, true_and, and_true, Decidable.not_not, Classical.not_not, implies_true, List.nil_append, List.cons_append, List.append_assoc, Option.some.injEq, Sum.inl.injEq, zSw_c, zSw_n]); (try simp only [zit_e, Bool.and_eq_true, Bool.or_eq_true, Bool.not_eq_true', Bool.and_eq_false_iff, Bool.or_eq_false_iff, Bool.not_eq_false', zbe, zdt, zdf, zb2_p, zbp_0, zbp_1, zbp_inj, zbp_01, Bool.true_eq_false, Bool.false_eq_true, true_and, and_true, Decidable.not_not, Classical.not_not, implies_true, List.nil_append, List.cons_append, List.append_assoc, Option.some.injEq, Sum.inl.injEq, zSw_c, zSw_n, f_M_fault, zc_355]); (try simp only [zi_cs, zi_c0, zii_cs, zii_c0, zl_cs, zl_c0, zll_cs, zll_c0, zr_cs, zr_c0, zrr_cs, zrr_c0, zxs_cs, zxs_c0, zxx_cs, zxx_c0, zfree_c0, zfree_c1, zfree_cs, zfree_cz, zlong_i, zlong_r, zlong_x, zset_0, zset_s, true_and, and_true, Option.some.injEq, Sum.inl.injEq, Sum.inr.injEq, zb2_p, zbp_0, zbp_1, zbp_inj, zbp_01, Nat.zero_add, Nat.reduceAdd, implies_true, List.nil_append, List.cons_append, List.append_assoc, Int.not_lt, Int.not_le, Decidable.not_not, Int.zero_add, Int.reduceLE, Int.reduceLT, Int.reduceEq, Int.reduceNe, Int.reduceAdd, Int.reduceSub, Int.reduceMul, Int.reduceNeg, Int.reduceToNat, Nat.reduceMul, Nat.reduceLT, Nat.reduceEqDiff, and_self, ite_true, ite_false, zx1, zx2, zRecv, List.length_cons, List.length_nil, ne_eq, not_true_eq_false, not_false_eq_true, true_or, or_true, or_false, false_or, and_false, false_and, zf01, zf10, reduceCtorEq, zSw_c, zSw_n, zm_r, zit_T, zit_F, false_implies, true_implies, f_M_fault, zc_355])
  · exact h.elim
theorem fl_M_200 : zFl "DebtDoorsModel" 200 12 19 := ⟨_, rfl, by decide, (zTb_in 1345 (by decide +kernel) (by decide +kernel)), rfl⟩
theorem nk_12_19 : zNk 12 19 = some 0 := rfl
def y_M_fine : zMt := (⟨"DebtDoorsModel", "fine", "()Z"⟩, prog_14_method_41_code, 1, some .boolean)
theorem d_M_fine_0 : decode prog_14_method_41_code 0 = .ok (.aload_n 0, 1) := by decide +kernel
theorem d_M_fine_1 : decode prog_14_method_41_code 1 = .ok (.getfield 200, 3) := by decide +kernel
theorem d_M_fine_4 : decode prog_14_method_41_code 4 = .ok (.iconst (-1), 1) := by decide +kernel
theorem d_M_fine_5 : decode prog_14_method_41_code 5 = .ok (.if_icmp .ne 7, 3) := by decide +kernel
theorem d_M_fine_8 : decode prog_14_method_41_code 8 = .ok (.iconst 1, 1) := by decide +kernel
theorem d_M_fine_9 : decode prog_14_method_41_code 9 = .ok (.goto 4, 3) := by decide +kernel
theorem d_M_fine_12 : decode prog_14_method_41_code 12 = .ok (.iconst 0, 1) := by decide +kernel
theorem d_M_fine_13 : decode prog_14_method_41_code 13 = .ok (.ireturn, 1) := by decide +kernel
def w_M_fine {d : Nat} (hd : 1 ≤ d) := (show SS ("DebtDoorsModel", prog_14_method_41_code, 1) (some .boolean) d 0 0 0 0 _ from (sRz (xE (rTb (rNot (rJ2 (tgt := 12) j_ne (rF 19 fl_M_200 nk_12_19 (rAn 0 d_M_fine_0 rfl) d_M_fine_1 rfl) (rI d_M_fine_4 rfl) d_M_fine_5 (by decide))) (rGoE (p2 := 13) (rI d_M_fine_8 rfl) d_M_fine_9 (by decide)) (rI d_M_fine_12 rfl))) d_M_fine_13 rfl))
noncomputable def f_M_fine : List zV → zMem → Int
  | [.inr (.inr (.inl q0))], μ => zbp (μ 355 19 = -1)
  | _, _ => 0
def g_M_fine : List zV → zMem → Prop
  | [.inr (.inr (.inl q0))], μ => q0 = 355 ∧ (True)
  | _, _ => False
theorem p_M_fine : zPu y_M_fine 1 f_M_fine g_M_fine := by
  intro as μ h
  unfold g_M_fine at h
  split at h
  · next q0 =>
    obtain ⟨rfl, h⟩ := h
    refine zSp.ss [vr 355] rfl (w_M_fine (Nat.le_refl _)) rfl rfl ?_
    (try simp only [zit_e, Bool.and_eq_true, Bool.or_eq_true, Bool.not_eq_true', Bool.and_eq_false_iff, Bool.or_eq_false_iff, Bool.not_eq_false', zbe, zdt, zdf, zb2_p, zbp_0, zbp_1, zbp_inj, zbp_01, Bool.true_eq_false, Bool.false_eq_true, true_and, and_true, Decidable.not_not, Classical.not_not, implies_true, List.nil_append, List.cons_append, List.append_assoc, Option.some.injEq, Sum.inl.injEq, zSw_c, zSw_n]); (try simp only [zit_e, Bool.and_eq_true, Bool.or_eq_true, Bool.not_eq_true', Bool.and_eq_false_iff, Bool.or_eq_false_iff, Bool.not_eq_false', zbe, zdt, zdf, zb2_p, zbp_0, zbp_1, zbp_inj, zbp_01, Bool.true_eq_false, Bool.false_eq_true, true_and, and_true, Decidable.not_not, Classical.not_not, implies_true, List.nil_append, List.cons_append, List.append_assoc, Option.some.injEq, Sum.inl.injEq, zSw_c, zSw_n, f_M_fine, zc_355]); (try simp only [zi_cs, zi_c0, zii_cs, zii_c0, zl_cs, zl_c0, zll_cs, zll_c0, zr_cs, zr_c0, zrr_cs, zrr_c0, zxs_cs, zxs_c0, zxx_cs, zxx_c0, zfree_c0, zfree_c1, zfree_cs, zfree_cz, zlong_i, zlong_r, zlong_x, zset_0, zset_s, true_and, and_true, Option.some.injEq, Sum.inl.injEq, Sum.inr.injEq, zb2_p, zbp_0, zbp_1, zbp_inj, zbp_01, Nat.zero_add, Nat.reduceAdd, implies_true, List.nil_append, List.cons_append, List.append_assoc, Int.not_lt, Int.not_le, Decidable.not_not, Int.zero_add, Int.reduceLE, Int.reduceLT, Int.reduceEq, Int.reduceNe, Int.reduceAdd, Int.reduceSub, Int.reduceMul, Int.reduceNeg, Int.reduceToNat, Nat.reduceMul, Nat.reduceLT, Nat.reduceEqDiff, and_self, ite_true, ite_false, zx1, zx2, zRecv, List.length_cons, List.length_nil, ne_eq, not_true_eq_false, not_false_eq_true, true_or, or_true, or_false, false_or, and_false, false_and, zf01, zf10, reduceCtorEq, zSw_c, zSw_n, zm_r, zit_T, zit_F, false_implies, true_implies, f_M_fine, zc_355])
    omega
  · exact h.elim
theorem fl_M_3 : zFl "DebtDoorsModel" 3 12 0 := ⟨_, rfl, by decide, (zTb_in 1326 (by decide +kernel) (by decide +kernel)), rfl⟩
theorem nk_12_0 : zNk 12 0 = some 0 := rfl
def y_M_status : zMt := (⟨"DebtDoorsModel", "status", "()I"⟩, prog_14_method_144_code, 1, some .int)
theorem d_M_status_0 : decode prog_14_method_144_code 0 = .ok (.aload_n 0, 1) := by decide +kernel
theorem d_M_status_1 : decode prog_14_method_144_code 1 = .ok (.getfield 3, 3) := by decide +kernel
theorem d_M_status_4 : decode prog_14_method_144_code 4 = .ok (.ireturn, 1) := by decide +kernel
def w_M_status {d : Nat} (hd : 1 ≤ d) := (show SS ("DebtDoorsModel", prog_14_method_144_code, 1) (some .int) d 0 0 0 0 _ from (sRi (xE (rF 0 fl_M_3 nk_12_0 (rAn 0 d_M_status_0 rfl) d_M_status_1 rfl)) d_M_status_4 rfl))
noncomputable def f_M_status : List zV → zMem → Int
  | [.inr (.inr (.inl q0))], μ => μ 355 0
  | _, _ => 0
def g_M_status : List zV → zMem → Prop
  | [.inr (.inr (.inl q0))], μ => q0 = 355 ∧ (True)
  | _, _ => False
theorem p_M_status : zPu y_M_status 1 f_M_status g_M_status := by
  intro as μ h
  unfold g_M_status at h
  split at h
  · next q0 =>
    obtain ⟨rfl, h⟩ := h
    refine zSp.ss [vr 355] rfl (w_M_status (Nat.le_refl _)) rfl rfl ?_
    (try simp only [zit_e, Bool.and_eq_true, Bool.or_eq_true, Bool.not_eq_true', Bool.and_eq_false_iff, Bool.or_eq_false_iff, Bool.not_eq_false', zbe, zdt, zdf, zb2_p, zbp_0, zbp_1, zbp_inj, zbp_01, Bool.true_eq_false, Bool.false_eq_true, true_and, and_true, Decidable.not_not, Classical.not_not, implies_true, List.nil_append, List.cons_append, List.append_assoc, Option.some.injEq, Sum.inl.injEq, zSw_c, zSw_n]); (try simp only [zit_e, Bool.and_eq_true, Bool.or_eq_true, Bool.not_eq_true', Bool.and_eq_false_iff, Bool.or_eq_false_iff, Bool.not_eq_false', zbe, zdt, zdf, zb2_p, zbp_0, zbp_1, zbp_inj, zbp_01, Bool.true_eq_false, Bool.false_eq_true, true_and, and_true, Decidable.not_not, Classical.not_not, implies_true, List.nil_append, List.cons_append, List.append_assoc, Option.some.injEq, Sum.inl.injEq, zSw_c, zSw_n, f_M_status, zc_355]); (try simp only [zi_cs, zi_c0, zii_cs, zii_c0, zl_cs, zl_c0, zll_cs, zll_c0, zr_cs, zr_c0, zrr_cs, zrr_c0, zxs_cs, zxs_c0, zxx_cs, zxx_c0, zfree_c0, zfree_c1, zfree_cs, zfree_cz, zlong_i, zlong_r, zlong_x, zset_0, zset_s, true_and, and_true, Option.some.injEq, Sum.inl.injEq, Sum.inr.injEq, zb2_p, zbp_0, zbp_1, zbp_inj, zbp_01, Nat.zero_add, Nat.reduceAdd, implies_true, List.nil_append, List.cons_append, List.append_assoc, Int.not_lt, Int.not_le, Decidable.not_not, Int.zero_add, Int.reduceLE, Int.reduceLT, Int.reduceEq, Int.reduceNe, Int.reduceAdd, Int.reduceSub, Int.reduceMul, Int.reduceNeg, Int.reduceToNat, Nat.reduceMul, Nat.reduceLT, Nat.reduceEqDiff, and_self, ite_true, ite_false, zx1, zx2, zRecv, List.length_cons, List.length_nil, ne_eq, not_true_eq_false, not_false_eq_true, true_or, or_true, or_false, false_or, and_false, false_and, zf01, zf10, reduceCtorEq, zSw_c, zSw_n, zm_r, zit_T, zit_F, false_implies, true_implies, f_M_status, zc_355])
  · exact h.elim
theorem nk_12_47 : zNk 12 47 = some 0 := rfl
def y_M_stopped : zMt := (⟨"DebtDoorsModel", "stopped", "()I"⟩, prog_14_method_135_code, 1, some .int)
theorem d_M_stopped_0 : decode prog_14_method_135_code 0 = .ok (.aload_n 0, 1) := by decide +kernel
theorem d_M_stopped_1 : decode prog_14_method_135_code 1 = .ok (.getfield 107, 3) := by decide +kernel
theorem d_M_stopped_4 : decode prog_14_method_135_code 4 = .ok (.ireturn, 1) := by decide +kernel
def w_M_stopped {d : Nat} (hd : 1 ≤ d) := (show SS ("DebtDoorsModel", prog_14_method_135_code, 1) (some .int) d 0 0 0 0 _ from (sRi (xE (rF 47 fl_M_107 nk_12_47 (rAn 0 d_M_stopped_0 rfl) d_M_stopped_1 rfl)) d_M_stopped_4 rfl))
noncomputable def f_M_stopped : List zV → zMem → Int
  | [.inr (.inr (.inl q0))], μ => μ 355 47
  | _, _ => 0
def g_M_stopped : List zV → zMem → Prop
  | [.inr (.inr (.inl q0))], μ => q0 = 355 ∧ (True)
  | _, _ => False
theorem p_M_stopped : zPu y_M_stopped 1 f_M_stopped g_M_stopped := by
  intro as μ h
  unfold g_M_stopped at h
  split at h
  · next q0 =>
    obtain ⟨rfl, h⟩ := h
    refine zSp.ss [vr 355] rfl (w_M_stopped (Nat.le_refl _)) rfl rfl ?_
    (try simp only [zit_e, Bool.and_eq_true, Bool.or_eq_true, Bool.not_eq_true', Bool.and_eq_false_iff, Bool.or_eq_false_iff, Bool.not_eq_false', zbe, zdt, zdf, zb2_p, zbp_0, zbp_1, zbp_inj, zbp_01, Bool.true_eq_false, Bool.false_eq_true, true_and, and_true, Decidable.not_not, Classical.not_not, implies_true, List.nil_append, List.cons_append, List.append_assoc, Option.some.injEq, Sum.inl.injEq, zSw_c, zSw_n]); (try simp only [zit_e, Bool.and_eq_true, Bool.or_eq_true, Bool.not_eq_true', Bool.and_eq_false_iff, Bool.or_eq_false_iff, Bool.not_eq_false', zbe, zdt, zdf, zb2_p, zbp_0, zbp_1, zbp_inj, zbp_01, Bool.true_eq_false, Bool.false_eq_true, true_and, and_true, Decidable.not_not, Classical.not_not, implies_true, List.nil_append, List.cons_append, List.append_assoc, Option.some.injEq, Sum.inl.injEq, zSw_c, zSw_n, f_M_stopped, zc_355]); (try simp only [zi_cs, zi_c0, zii_cs, zii_c0, zl_cs, zl_c0, zll_cs, zll_c0, zr_cs, zr_c0, zrr_cs, zrr_c0, zxs_cs, zxs_c0, zxx_cs, zxx_c0, zfree_c0, zfree_c1, zfree_cs, zfree_cz, zlong_i, zlong_r, zlong_x, zset_0, zset_s, true_and, and_true, Option.some.injEq, Sum.inl.injEq, Sum.inr.injEq, zb2_p, zbp_0, zbp_1, zbp_inj, zbp_01, Nat.zero_add, Nat.reduceAdd, implies_true, List.nil_append, List.cons_append, List.append_assoc, Int.not_lt, Int.not_le, Decidable.not_not, Int.zero_add, Int.reduceLE, Int.reduceLT, Int.reduceEq, Int.reduceNe, Int.reduceAdd, Int.reduceSub, Int.reduceMul, Int.reduceNeg, Int.reduceToNat, Nat.reduceMul, Nat.reduceLT, Nat.reduceEqDiff, and_self, ite_true, ite_false, zx1, zx2, zRecv, List.length_cons, List.length_nil, ne_eq, not_true_eq_false, not_false_eq_true, true_or, or_true, or_false, false_or, and_false, false_and, zf01, zf10, reduceCtorEq, zSw_c, zSw_n, zm_r, zit_T, zit_F, false_implies, true_implies, f_M_stopped, zc_355])
  · exact h.elim
def y_M_isSmall : zMt := (⟨"DebtDoorsModel", "isSmall", "(I)Z"⟩, prog_14_method_37_code, 1, some .boolean)
theorem d_M_isSmall_0 : decode prog_14_method_37_code 0 = .ok (.iload_n 0, 1) := by decide +kernel
theorem d_M_isSmall_1 : decode prog_14_method_37_code 1 = .ok (.bipush 97, 2) := by decide +kernel
theorem d_M_isSmall_3 : decode prog_14_method_37_code 3 = .ok (.if_icmp .lt 13, 3) := by decide +kernel
theorem d_M_isSmall_6 : decode prog_14_method_37_code 6 = .ok (.iload_n 0, 1) := by decide +kernel
theorem d_M_isSmall_7 : decode prog_14_method_37_code 7 = .ok (.bipush 122, 2) := by decide +kernel
theorem d_M_isSmall_9 : decode prog_14_method_37_code 9 = .ok (.if_icmp .gt 7, 3) := by decide +kernel
theorem d_M_isSmall_12 : decode prog_14_method_37_code 12 = .ok (.iconst 1, 1) := by decide +kernel
theorem d_M_isSmall_13 : decode prog_14_method_37_code 13 = .ok (.goto 4, 3) := by decide +kernel
theorem d_M_isSmall_16 : decode prog_14_method_37_code 16 = .ok (.iconst 0, 1) := by decide +kernel
theorem d_M_isSmall_17 : decode prog_14_method_37_code 17 = .ok (.ireturn, 1) := by decide +kernel
def w_M_isSmall {d : Nat} (hd : 1 ≤ d) := (show SS ("DebtDoorsModel", prog_14_method_37_code, 1) (some .boolean) d 0 0 0 0 _ from (sRz (xE (rTb (rAnd (mm := 6) (rNot (rJ2 (tgt := 16) j_lt (rIn 0 d_M_isSmall_0 rfl) (rB d_M_isSmall_1 rfl) d_M_isSmall_3 (by decide))) (rNot (rJ2 (tgt := 16) j_gt (rIn 0 d_M_isSmall_6 rfl) (rB d_M_isSmall_7 rfl) d_M_isSmall_9 (by decide)))) (rGoE (p2 := 17) (rI d_M_isSmall_12 rfl) d_M_isSmall_13 (by decide)) (rI d_M_isSmall_16 rfl))) d_M_isSmall_17 rfl))
noncomputable def f_M_isSmall : List zV → zMem → Int
  | [.inl a], μ => zbp (97 ≤ a ∧ a ≤ 122)
  | _, _ => 0
def g_M_isSmall : List zV → zMem → Prop
  | [.inl a], μ => (True)
  | _, _ => False
theorem p_M_isSmall : zPu y_M_isSmall 1 f_M_isSmall g_M_isSmall := by
  intro as μ h
  unfold g_M_isSmall at h
  split at h
  · next a =>
    refine zSp.ss [vi a] rfl (w_M_isSmall (Nat.le_refl _)) rfl rfl ?_
    (try simp only [zit_e, Bool.and_eq_true, Bool.or_eq_true, Bool.not_eq_true', Bool.and_eq_false_iff, Bool.or_eq_false_iff, Bool.not_eq_false', zbe, zdt, zdf, zb2_p, zbp_0, zbp_1, zbp_inj, zbp_01, Bool.true_eq_false, Bool.false_eq_true, true_and, and_true, Decidable.not_not, Classical.not_not, implies_true, List.nil_append, List.cons_append, List.append_assoc, Option.some.injEq, Sum.inl.injEq, zSw_c, zSw_n]); (try simp only [zit_e, Bool.and_eq_true, Bool.or_eq_true, Bool.not_eq_true', Bool.and_eq_false_iff, Bool.or_eq_false_iff, Bool.not_eq_false', zbe, zdt, zdf, zb2_p, zbp_0, zbp_1, zbp_inj, zbp_01, Bool.true_eq_false, Bool.false_eq_true, true_and, and_true, Decidable.not_not, Classical.not_not, implies_true, List.nil_append, List.cons_append, List.append_assoc, Option.some.injEq, Sum.inl.injEq, zSw_c, zSw_n, f_M_isSmall]); (try simp only [zi_cs, zi_c0, zii_cs, zii_c0, zl_cs, zl_c0, zll_cs, zll_c0, zr_cs, zr_c0, zrr_cs, zrr_c0, zxs_cs, zxs_c0, zxx_cs, zxx_c0, zfree_c0, zfree_c1, zfree_cs, zfree_cz, zlong_i, zlong_r, zlong_x, zset_0, zset_s, true_and, and_true, Option.some.injEq, Sum.inl.injEq, Sum.inr.injEq, zb2_p, zbp_0, zbp_1, zbp_inj, zbp_01, Nat.zero_add, Nat.reduceAdd, implies_true, List.nil_append, List.cons_append, List.append_assoc, Int.not_lt, Int.not_le, Decidable.not_not, Int.zero_add, Int.reduceLE, Int.reduceLT, Int.reduceEq, Int.reduceNe, Int.reduceAdd, Int.reduceSub, Int.reduceMul, Int.reduceNeg, Int.reduceToNat, Nat.reduceMul, Nat.reduceLT, Nat.reduceEqDiff, and_self, ite_true, ite_false, zx1, zx2, zRecv, List.length_cons, List.length_nil, ne_eq, not_true_eq_false, not_false_eq_true, true_or, or_true, or_false, false_or, and_false, false_and, zf01, zf10, reduceCtorEq, zSw_c, zSw_n, zm_r, zit_T, zit_F, false_implies, true_implies, f_M_isSmall])
    omega
  · exact h.elim
def y_M_isDigit : zMt := (⟨"DebtDoorsModel", "isDigit", "(I)Z"⟩, prog_14_method_38_code, 1, some .boolean)
theorem d_M_isDigit_0 : decode prog_14_method_38_code 0 = .ok (.iload_n 0, 1) := by decide +kernel
theorem d_M_isDigit_1 : decode prog_14_method_38_code 1 = .ok (.bipush 48, 2) := by decide +kernel
theorem d_M_isDigit_3 : decode prog_14_method_38_code 3 = .ok (.if_icmp .lt 13, 3) := by decide +kernel
theorem d_M_isDigit_6 : decode prog_14_method_38_code 6 = .ok (.iload_n 0, 1) := by decide +kernel
theorem d_M_isDigit_7 : decode prog_14_method_38_code 7 = .ok (.bipush 57, 2) := by decide +kernel
theorem d_M_isDigit_9 : decode prog_14_method_38_code 9 = .ok (.if_icmp .gt 7, 3) := by decide +kernel
theorem d_M_isDigit_12 : decode prog_14_method_38_code 12 = .ok (.iconst 1, 1) := by decide +kernel
theorem d_M_isDigit_13 : decode prog_14_method_38_code 13 = .ok (.goto 4, 3) := by decide +kernel
theorem d_M_isDigit_16 : decode prog_14_method_38_code 16 = .ok (.iconst 0, 1) := by decide +kernel
theorem d_M_isDigit_17 : decode prog_14_method_38_code 17 = .ok (.ireturn, 1) := by decide +kernel
def w_M_isDigit {d : Nat} (hd : 1 ≤ d) := (show SS ("DebtDoorsModel", prog_14_method_38_code, 1) (some .boolean) d 0 0 0 0 _ from (sRz (xE (rTb (rAnd (mm := 6) (rNot (rJ2 (tgt := 16) j_lt (rIn 0 d_M_isDigit_0 rfl) (rB d_M_isDigit_1 rfl) d_M_isDigit_3 (by decide))) (rNot (rJ2 (tgt := 16) j_gt (rIn 0 d_M_isDigit_6 rfl) (rB d_M_isDigit_7 rfl) d_M_isDigit_9 (by decide)))) (rGoE (p2 := 17) (rI d_M_isDigit_12 rfl) d_M_isDigit_13 (by decide)) (rI d_M_isDigit_16 rfl))) d_M_isDigit_17 rfl))
noncomputable def f_M_isDigit : List zV → zMem → Int
  | [.inl a], μ => zbp (48 ≤ a ∧ a ≤ 57)
  | _, _ => 0
def g_M_isDigit : List zV → zMem → Prop
  | [.inl a], μ => (True)
  | _, _ => False
theorem p_M_isDigit : zPu y_M_isDigit 1 f_M_isDigit g_M_isDigit := by
  intro as μ h
  unfold g_M_isDigit at h
  split at h
  · next a =>
    refine zSp.ss [vi a] rfl (w_M_isDigit (Nat.le_refl _)) rfl rfl ?_
    (try simp only [zit_e, Bool.and_eq_true, Bool.or_eq_true, Bool.not_eq_true', Bool.and_eq_false_iff, Bool.or_eq_false_iff, Bool.not_eq_false', zbe, zdt, zdf, zb2_p, zbp_0, zbp_1, zbp_inj, zbp_01, Bool.true_eq_false, Bool.false_eq_true, true_and, and_true, Decidable.not_not, Classical.not_not, implies_true, List.nil_append, List.cons_append, List.append_assoc, Option.some.injEq, Sum.inl.injEq, zSw_c, zSw_n]); (try simp only [zit_e, Bool.and_eq_true, Bool.or_eq_true, Bool.not_eq_true', Bool.and_eq_false_iff, Bool.or_eq_false_iff, Bool.not_eq_false', zbe, zdt, zdf, zb2_p, zbp_0, zbp_1, zbp_inj, zbp_01, Bool.true_eq_false, Bool.false_eq_true, true_and, and_true, Decidable.not_not, Classical.not_not, implies_true, List.nil_append, List.cons_append, List.append_assoc, Option.some.injEq, Sum.inl.injEq, zSw_c, zSw_n, f_M_isDigit]); (try simp only [zi_cs, zi_c0, zii_cs, zii_c0, zl_cs, zl_c0, zll_cs, zll_c0, zr_cs, zr_c0, zrr_cs, zrr_c0, zxs_cs, zxs_c0, zxx_cs, zxx_c0, zfree_c0, zfree_c1, zfree_cs, zfree_cz, zlong_i, zlong_r, zlong_x, zset_0, zset_s, true_and, and_true, Option.some.injEq, Sum.inl.injEq, Sum.inr.injEq, zb2_p, zbp_0, zbp_1, zbp_inj, zbp_01, Nat.zero_add, Nat.reduceAdd, implies_true, List.nil_append, List.cons_append, List.append_assoc, Int.not_lt, Int.not_le, Decidable.not_not, Int.zero_add, Int.reduceLE, Int.reduceLT, Int.reduceEq, Int.reduceNe, Int.reduceAdd, Int.reduceSub, Int.reduceMul, Int.reduceNeg, Int.reduceToNat, Nat.reduceMul, Nat.reduceLT, Nat.reduceEqDiff, and_self, ite_true, ite_false, zx1, zx2, zRecv, List.length_cons, List.length_nil, ne_eq, not_true_eq_false, not_false_eq_true, true_or, or_true, or_false, false_or, and_false, false_and, zf01, zf10, reduceCtorEq, zSw_c, zSw_n, zm_r, zit_T, zit_F, false_implies, true_implies, f_M_isDigit])
    omega
  · exact h.elim
def y_M_sign : zMt := (⟨"DebtDoorsModel", "sign", "(C)I"⟩, prog_14_method_46_code, 1, some .int)
theorem d_M_sign_0 : decode prog_14_method_46_code 0 = .ok (.bipush 100, 2) := by decide +kernel
theorem d_M_sign_2 : decode prog_14_method_46_code 2 = .ok (.iload_n 0, 1) := by decide +kernel
theorem d_M_sign_3 : decode prog_14_method_46_code 3 = .ok (.iadd, 1) := by decide +kernel
theorem d_M_sign_4 : decode prog_14_method_46_code 4 = .ok (.ireturn, 1) := by decide +kernel
def w_M_sign {d : Nat} (hd : 1 ≤ d) := (show SS ("DebtDoorsModel", prog_14_method_46_code, 1) (some .int) d 0 0 0 0 _ from (sRi (xE (r2 o_add (rB d_M_sign_0 rfl) (rIn 0 d_M_sign_2 rfl) d_M_sign_3)) d_M_sign_4 rfl))
noncomputable def f_M_sign : List zV → zMem → Int
  | [.inl a], μ => 100 + a
  | _, _ => 0
def g_M_sign : List zV → zMem → Prop
  | [.inl a], μ => (0 ≤ a ∧ a ≤ 255)
  | _, _ => False
theorem p_M_sign : zPu y_M_sign 1 f_M_sign g_M_sign := by
  intro as μ h
  unfold g_M_sign at h
  split at h
  · next a =>
    refine zSp.ss [vi a] rfl (w_M_sign (Nat.le_refl _)) rfl rfl ?_
    (try simp only [zit_e, Bool.and_eq_true, Bool.or_eq_true, Bool.not_eq_true', Bool.and_eq_false_iff, Bool.or_eq_false_iff, Bool.not_eq_false', zbe, zdt, zdf, zb2_p, zbp_0, zbp_1, zbp_inj, zbp_01, Bool.true_eq_false, Bool.false_eq_true, true_and, and_true, Decidable.not_not, Classical.not_not, implies_true, List.nil_append, List.cons_append, List.append_assoc, Option.some.injEq, Sum.inl.injEq, zSw_c, zSw_n]); (try simp only [zit_e, Bool.and_eq_true, Bool.or_eq_true, Bool.not_eq_true', Bool.and_eq_false_iff, Bool.or_eq_false_iff, Bool.not_eq_false', zbe, zdt, zdf, zb2_p, zbp_0, zbp_1, zbp_inj, zbp_01, Bool.true_eq_false, Bool.false_eq_true, true_and, and_true, Decidable.not_not, Classical.not_not, implies_true, List.nil_append, List.cons_append, List.append_assoc, Option.some.injEq, Sum.inl.injEq, zSw_c, zSw_n, f_M_sign]); (try simp only [zi_cs, zi_c0, zii_cs, zii_c0, zl_cs, zl_c0, zll_cs, zll_c0, zr_cs, zr_c0, zrr_cs, zrr_c0, zxs_cs, zxs_c0, zxx_cs, zxx_c0, zfree_c0, zfree_c1, zfree_cs, zfree_cz, zlong_i, zlong_r, zlong_x, zset_0, zset_s, true_and, and_true, Option.some.injEq, Sum.inl.injEq, Sum.inr.injEq, zb2_p, zbp_0, zbp_1, zbp_inj, zbp_01, Nat.zero_add, Nat.reduceAdd, implies_true, List.nil_append, List.cons_append, List.append_assoc, Int.not_lt, Int.not_le, Decidable.not_not, Int.zero_add, Int.reduceLE, Int.reduceLT, Int.reduceEq, Int.reduceNe, Int.reduceAdd, Int.reduceSub, Int.reduceMul, Int.reduceNeg, Int.reduceToNat, Nat.reduceMul, Nat.reduceLT, Nat.reduceEqDiff, and_self, ite_true, ite_false, zx1, zx2, zRecv, List.length_cons, List.length_nil, ne_eq, not_true_eq_false, not_false_eq_true, true_or, or_true, or_false, false_or, and_false, false_and, zf01, zf10, reduceCtorEq, zSw_c, zSw_n, zm_r, zit_T, zit_F, false_implies, true_implies, f_M_sign])
    ((try simp only [zI_e]); (first | done | omega | skip))
  · exact h.elim
def y_M_placeOf : zMt := (⟨"DebtDoorsModel", "placeOf", "(II)I"⟩, prog_14_method_20_code, 2, some .int)
theorem d_M_placeOf_0 : decode prog_14_method_20_code 0 = .ok (.iload_n 1, 1) := by decide +kernel
theorem d_M_placeOf_1 : decode prog_14_method_20_code 1 = .ok (.ifCond .ne 9, 3) := by decide +kernel
theorem d_M_placeOf_4 : decode prog_14_method_20_code 4 = .ok (.iconst 0, 1) := by decide +kernel
theorem d_M_placeOf_5 : decode prog_14_method_20_code 5 = .ok (.iload_n 0, 1) := by decide +kernel
theorem d_M_placeOf_6 : decode prog_14_method_20_code 6 = .ok (.iadd, 1) := by decide +kernel
theorem d_M_placeOf_7 : decode prog_14_method_20_code 7 = .ok (.goto 13, 3) := by decide +kernel
theorem d_M_placeOf_10 : decode prog_14_method_20_code 10 = .ok (.bipush 73, 2) := by decide +kernel
theorem d_M_placeOf_12 : decode prog_14_method_20_code 12 = .ok (.iconst 2, 1) := by decide +kernel
theorem d_M_placeOf_13 : decode prog_14_method_20_code 13 = .ok (.iload_n 0, 1) := by decide +kernel
theorem d_M_placeOf_14 : decode prog_14_method_20_code 14 = .ok (.imul, 1) := by decide +kernel
theorem d_M_placeOf_15 : decode prog_14_method_20_code 15 = .ok (.iadd, 1) := by decide +kernel
theorem d_M_placeOf_16 : decode prog_14_method_20_code 16 = .ok (.iload_n 1, 1) := by decide +kernel
theorem d_M_placeOf_17 : decode prog_14_method_20_code 17 = .ok (.iadd, 1) := by decide +kernel
theorem d_M_placeOf_18 : decode prog_14_method_20_code 18 = .ok (.iconst 1, 1) := by decide +kernel
theorem d_M_placeOf_19 : decode prog_14_method_20_code 19 = .ok (.isub, 1) := by decide +kernel
theorem d_M_placeOf_20 : decode prog_14_method_20_code 20 = .ok (.ireturn, 1) := by decide +kernel
def w_M_placeOf {d : Nat} (hd : 1 ≤ d) := (show SS ("DebtDoorsModel", prog_14_method_20_code, 2) (some .int) d 0 0 0 0 _ from (sRi (xE (rT2 (rNot (rJ1 (tgt := 10) k_ne (rIn 1 d_M_placeOf_0 rfl) d_M_placeOf_1 (by decide))) (rGoE (p2 := 20) (r2 o_add (rI d_M_placeOf_4 rfl) (rIn 0 d_M_placeOf_5 rfl) d_M_placeOf_6) d_M_placeOf_7 (by decide)) (r2 o_sub (r2 o_add (r2 o_add (rB d_M_placeOf_10 rfl) (r2 o_mul (rI d_M_placeOf_12 rfl) (rIn 0 d_M_placeOf_13 rfl) d_M_placeOf_14) d_M_placeOf_15) (rIn 1 d_M_placeOf_16 rfl) d_M_placeOf_17) (rI d_M_placeOf_18 rfl) d_M_placeOf_19))) d_M_placeOf_20 rfl))
noncomputable def f_M_placeOf : List zV → zMem → Int
  | [.inl p, .inl w], μ => if w = 0 then p else 73 + 2 * p + w - 1
  | _, _ => 0
def g_M_placeOf : List zV → zMem → Prop
  | [.inl p, .inl w], μ => (0 ≤ p ∧ p ≤ 6 ∧ 0 ≤ w ∧ w ≤ 2)
  | _, _ => False
theorem p_M_placeOf : zPu y_M_placeOf 1 f_M_placeOf g_M_placeOf := by
  intro as μ h
  unfold g_M_placeOf at h
  split at h
  · next p w =>
    refine zSp.ss [vi p, vi w] rfl (w_M_placeOf (Nat.le_refl _)) rfl rfl ?_
    (try simp only [zit_e, Bool.and_eq_true, Bool.or_eq_true, Bool.not_eq_true', Bool.and_eq_false_iff, Bool.or_eq_false_iff, Bool.not_eq_false', zbe, zdt, zdf, zb2_p, zbp_0, zbp_1, zbp_inj, zbp_01, Bool.true_eq_false, Bool.false_eq_true, true_and, and_true, Decidable.not_not, Classical.not_not, implies_true, List.nil_append, List.cons_append, List.append_assoc, Option.some.injEq, Sum.inl.injEq, zSw_c, zSw_n]); (try simp only [zit_e, Bool.and_eq_true, Bool.or_eq_true, Bool.not_eq_true', Bool.and_eq_false_iff, Bool.or_eq_false_iff, Bool.not_eq_false', zbe, zdt, zdf, zb2_p, zbp_0, zbp_1, zbp_inj, zbp_01, Bool.true_eq_false, Bool.false_eq_true, true_and, and_true, Decidable.not_not, Classical.not_not, implies_true, List.nil_append, List.cons_append, List.append_assoc, Option.some.injEq, Sum.inl.injEq, zSw_c, zSw_n, f_M_placeOf]); (try simp only [zi_cs, zi_c0, zii_cs, zii_c0, zl_cs, zl_c0, zll_cs, zll_c0, zr_cs, zr_c0, zrr_cs, zrr_c0, zxs_cs, zxs_c0, zxx_cs, zxx_c0, zfree_c0, zfree_c1, zfree_cs, zfree_cz, zlong_i, zlong_r, zlong_x, zset_0, zset_s, true_and, and_true, Option.some.injEq, Sum.inl.injEq, Sum.inr.injEq, zb2_p, zbp_0, zbp_1, zbp_inj, zbp_01, Nat.zero_add, Nat.reduceAdd, implies_true, List.nil_append, List.cons_append, List.append_assoc, Int.not_lt, Int.not_le, Decidable.not_not, Int.zero_add, Int.reduceLE, Int.reduceLT, Int.reduceEq, Int.reduceNe, Int.reduceAdd, Int.reduceSub, Int.reduceMul, Int.reduceNeg, Int.reduceToNat, Nat.reduceMul, Nat.reduceLT, Nat.reduceEqDiff, and_self, ite_true, ite_false, zx1, zx2, zRecv, List.length_cons, List.length_nil, ne_eq, not_true_eq_false, not_false_eq_true, true_or, or_true, or_false, false_or, and_false, false_and, zf01, zf10, reduceCtorEq, zSw_c, zSw_n, zm_r, zit_T, zit_F, false_implies, true_implies, f_M_placeOf])
    by_cases h1 : w = 0
    · simp [h1, zI_e, zit]; omega
    · simp [h1, zI_e, zit]; omega
  · exact h.elim
theorem kl_M_495 : Cond.constantLong "DebtDoorsModel" 495 (Int64.ofInt 1000000) ∈ zTb := (zTb_in 2057 (by decide +kernel) (by decide +kernel))
def y_M_small : zMt := (⟨"DebtDoorsModel", "small", "(J)I"⟩, prog_14_method_138_code, 2, some .int)
theorem d_M_small_0 : decode prog_14_method_138_code 0 = .ok (.lload_n 0, 1) := by decide +kernel
theorem d_M_small_1 : decode prog_14_method_138_code 1 = .ok (.lconst 0, 1) := by decide +kernel
theorem d_M_small_2 : decode prog_14_method_138_code 2 = .ok (.lcmp, 1) := by decide +kernel
theorem d_M_small_3 : decode prog_14_method_138_code 3 = .ok (.ifCond .lt 11, 3) := by decide +kernel
theorem d_M_small_6 : decode prog_14_method_138_code 6 = .ok (.lload_n 0, 1) := by decide +kernel
theorem d_M_small_7 : decode prog_14_method_138_code 7 = .ok (.ldc2_w 495, 3) := by decide +kernel
theorem d_M_small_10 : decode prog_14_method_138_code 10 = .ok (.lcmp, 1) := by decide +kernel
theorem d_M_small_11 : decode prog_14_method_138_code 11 = .ok (.ifCond .le 7, 3) := by decide +kernel
theorem d_M_small_14 : decode prog_14_method_138_code 14 = .ok (.iconst (-1), 1) := by decide +kernel
theorem d_M_small_15 : decode prog_14_method_138_code 15 = .ok (.goto 5, 3) := by decide +kernel
theorem d_M_small_18 : decode prog_14_method_138_code 18 = .ok (.lload_n 0, 1) := by decide +kernel
theorem d_M_small_19 : decode prog_14_method_138_code 19 = .ok (.l2i, 1) := by decide +kernel
theorem d_M_small_20 : decode prog_14_method_138_code 20 = .ok (.ireturn, 1) := by decide +kernel
def w_M_small {d : Nat} (hd : 1 ≤ d) := (show SS ("DebtDoorsModel", prog_14_method_138_code, 2) (some .int) d 0 0 0 0 _ from (sRi (xE (rT2 (rOr (mm := 6) (rJ1 (tgt := 14) k_lt (rCmp (rLn 0 d_M_small_0 rfl) (rLc0 d_M_small_1) d_M_small_2) d_M_small_3 (by decide)) (rNot (rJ1 (tgt := 18) k_le (rCmp (rLn 0 d_M_small_6 rfl) (rL2 kl_M_495 d_M_small_7 rfl) d_M_small_10) d_M_small_11 (by decide)))) (rGoE (p2 := 20) (rI d_M_small_14 rfl) d_M_small_15 (by decide)) (rL2I (rLn 0 d_M_small_18 rfl) d_M_small_19))) d_M_small_20 rfl))
noncomputable def f_M_small : List zV → zMem → Int
  | [.inr (.inl L)], μ => if L < 0 ∨ 1000000 < L then -1 else L
  | _, _ => 0
def g_M_small : List zV → zMem → Prop
  | [.inr (.inl L)], μ => (True)
  | _, _ => False
theorem p_M_small : zPu y_M_small 1 f_M_small g_M_small := by
  intro as μ h
  unfold g_M_small at h
  split at h
  · next L =>
    refine zSp.ss [vl L, vx 0] rfl (w_M_small (Nat.le_refl _)) rfl rfl ?_
    (try simp only [zit_e, Bool.and_eq_true, Bool.or_eq_true, Bool.not_eq_true', Bool.and_eq_false_iff, Bool.or_eq_false_iff, Bool.not_eq_false', zbe, zdt, zdf, zb2_p, zbp_0, zbp_1, zbp_inj, zbp_01, Bool.true_eq_false, Bool.false_eq_true, true_and, and_true, Decidable.not_not, Classical.not_not, implies_true, List.nil_append, List.cons_append, List.append_assoc, Option.some.injEq, Sum.inl.injEq, zSw_c, zSw_n]); (try simp only [zit_e, Bool.and_eq_true, Bool.or_eq_true, Bool.not_eq_true', Bool.and_eq_false_iff, Bool.or_eq_false_iff, Bool.not_eq_false', zbe, zdt, zdf, zb2_p, zbp_0, zbp_1, zbp_inj, zbp_01, Bool.true_eq_false, Bool.false_eq_true, true_and, and_true, Decidable.not_not, Classical.not_not, implies_true, List.nil_append, List.cons_append, List.append_assoc, Option.some.injEq, Sum.inl.injEq, zSw_c, zSw_n, f_M_small]); (try simp only [zi_cs, zi_c0, zii_cs, zii_c0, zl_cs, zl_c0, zll_cs, zll_c0, zr_cs, zr_c0, zrr_cs, zrr_c0, zxs_cs, zxs_c0, zxx_cs, zxx_c0, zfree_c0, zfree_c1, zfree_cs, zfree_cz, zlong_i, zlong_r, zlong_x, zset_0, zset_s, true_and, and_true, Option.some.injEq, Sum.inl.injEq, Sum.inr.injEq, zb2_p, zbp_0, zbp_1, zbp_inj, zbp_01, Nat.zero_add, Nat.reduceAdd, implies_true, List.nil_append, List.cons_append, List.append_assoc, Int.not_lt, Int.not_le, Decidable.not_not, Int.zero_add, Int.reduceLE, Int.reduceLT, Int.reduceEq, Int.reduceNe, Int.reduceAdd, Int.reduceSub, Int.reduceMul, Int.reduceNeg, Int.reduceToNat, Nat.reduceMul, Nat.reduceLT, Nat.reduceEqDiff, and_self, ite_true, ite_false, zx1, zx2, zRecv, List.length_cons, List.length_nil, ne_eq, not_true_eq_false, not_false_eq_true, true_or, or_true, or_false, false_or, and_false, false_and, zf01, zf10, reduceCtorEq, zSw_c, zSw_n, zm_r, zit_T, zit_F, false_implies, true_implies, f_M_small])
    by_cases h1 : L < 0 <;> by_cases h2 : 1000000 < L <;> simp [h1, h2, zcmp, zI_e, zit] <;> omega
  · exact h.elim

