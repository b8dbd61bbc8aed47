/-! a month, the reference -/
theorem ls_Mo_47 : zLs "DebtDoors$Month" 47 y_D_between 3 := Or.inr ⟨⟨"DebtDoors", List.mem_of_getElem? (i := 1296) (by decide +kernel)⟩, m_D_between⟩
theorem fl_Mo_46 : zFl "DebtDoors$Month" 46 4 2 := ⟨_, rfl, by decide, (zTb_in 525 (by decide +kernel) (by decide +kernel)), rfl⟩
theorem nk_4_2 : zNk 4 2 = some 0 := rfl
theorem nk_4_0 : zNk 4 0 = none := rfl
theorem kc_Mo_51 : Cond.constant "DebtDoors$Month" 51 (Int32.ofInt (-1000000)) ∈ zTb := (zTb_in 1297 (by decide +kernel) (by decide +kernel))
def y_Mo_told : zMt := (⟨"DebtDoors$Month", "told", "(II)I"⟩, prog_6_method_5_code, 3, some .int)
theorem d_Mo_told_0 : decode prog_6_method_5_code 0 = .ok (.iload_n 1, 1) := by decide +kernel
theorem d_Mo_told_1 : decode prog_6_method_5_code 1 = .ok (.iconst 0, 1) := by decide +kernel
theorem d_Mo_told_2 : decode prog_6_method_5_code 2 = .ok (.aload_n 0, 1) := by decide +kernel
theorem d_Mo_told_3 : decode prog_6_method_5_code 3 = .ok (.getfield 46, 3) := by decide +kernel
theorem d_Mo_told_6 : decode prog_6_method_5_code 6 = .ok (.iconst 1, 1) := by decide +kernel
theorem d_Mo_told_7 : decode prog_6_method_5_code 7 = .ok (.isub, 1) := by decide +kernel
theorem d_Mo_told_8 : decode prog_6_method_5_code 8 = .ok (.invokestatic 47, 3) := by decide +kernel
theorem d_Mo_told_11 : decode prog_6_method_5_code 11 = .ok (.ifCond .eq 25, 3) := by decide +kernel
theorem d_Mo_told_14 : decode prog_6_method_5_code 14 = .ok (.iload_n 2, 1) := by decide +kernel
theorem d_Mo_told_15 : decode prog_6_method_5_code 15 = .ok (.iconst 0, 1) := by decide +kernel
theorem d_Mo_told_16 : decode prog_6_method_5_code 16 = .ok (.iconst 2, 1) := by decide +kernel
theorem d_Mo_told_17 : decode prog_6_method_5_code 17 = .ok (.invokestatic 47, 3) := by decide +kernel
theorem d_Mo_told_20 : decode prog_6_method_5_code 20 = .ok (.ifCond .eq 16, 3) := by decide +kernel
theorem d_Mo_told_23 : decode prog_6_method_5_code 23 = .ok (.aload_n 0, 1) := by decide +kernel
theorem d_Mo_told_24 : decode prog_6_method_5_code 24 = .ok (.getfield 11, 3) := by decide +kernel
theorem d_Mo_told_27 : decode prog_6_method_5_code 27 = .ok (.iload_n 1, 1) := by decide +kernel
theorem d_Mo_told_28 : decode prog_6_method_5_code 28 = .ok (.iconst 3, 1) := by decide +kernel
theorem d_Mo_told_29 : decode prog_6_method_5_code 29 = .ok (.imul, 1) := by decide +kernel
theorem d_Mo_told_30 : decode prog_6_method_5_code 30 = .ok (.iload_n 2, 1) := by decide +kernel
theorem d_Mo_told_31 : decode prog_6_method_5_code 31 = .ok (.iadd, 1) := by decide +kernel
theorem d_Mo_told_32 : decode prog_6_method_5_code 32 = .ok (.iaload, 1) := by decide +kernel
theorem d_Mo_told_33 : decode prog_6_method_5_code 33 = .ok (.goto 5, 3) := by decide +kernel
theorem d_Mo_told_36 : decode prog_6_method_5_code 36 = .ok (.ldc 51, 2) := by decide +kernel
theorem d_Mo_told_38 : decode prog_6_method_5_code 38 = .ok (.ireturn, 1) := by decide +kernel
def w_Mo_told {d : Nat} (hd : 2 ≤ d) := (show SS ("DebtDoors$Month", prog_6_method_5_code, 3) (some .int) d 0 0 0 0 _ from (sRi (xE (rT2 (rAnd (mm := 14) (rNot (rJ1 (tgt := 36) k_eq (rS p_D_between (Nat.le_trans (Nat.le_of_ble_eq_true rfl) hd) ls_Mo_47 (rAi (rAi (rAi rA0 (rIn 1 d_Mo_told_0 rfl)) (rI d_Mo_told_1 rfl)) (r2 o_sub (rF 2 fl_Mo_46 nk_4_2 (rAn 0 d_Mo_told_2 rfl) d_Mo_told_3 rfl) (rI d_Mo_told_6 rfl) d_Mo_told_7)) (by decide) d_Mo_told_8) d_Mo_told_11 (by decide))) (rNot (rJ1 (tgt := 36) k_eq (rS p_D_between (Nat.le_trans (Nat.le_of_ble_eq_true rfl) hd) ls_Mo_47 (rAi (rAi (rAi rA0 (rIn 2 d_Mo_told_14 rfl)) (rI d_Mo_told_15 rfl)) (rI d_Mo_told_16 rfl)) (by decide) d_Mo_told_17) d_Mo_told_20 (by decide)))) (rGoE (p2 := 38) (rIa (rFr fl_Mo_11 nk_4_0 (rAn 0 d_Mo_told_23 rfl) d_Mo_told_24) (r2 o_add (r2 o_mul (rIn 1 d_Mo_told_27 rfl) (rI d_Mo_told_28 rfl) d_Mo_told_29) (rIn 2 d_Mo_told_30 rfl) d_Mo_told_31) d_Mo_told_32) d_Mo_told_33 (by decide)) (rLd kc_Mo_51 d_Mo_told_36 rfl))) d_Mo_told_38 rfl))
noncomputable def f_Mo_told : List zV → zMem → Int
  | [.inr (.inr (.inl q0)), .inl p, .inl x], μ => if (0 ≤ p ∧ p < μ 351 2) ∧ 0 ≤ x ∧ x ≤ 2 then μ 352 (p * 3 + x) else -1000000
  | _, _ => 0
def g_Mo_told : List zV → zMem → Prop
  | [.inr (.inr (.inl q0)), .inl p, .inl x], μ => q0 = 351 ∧ (0 ≤ μ 351 2 ∧ μ 351 2 ≤ 7)
  | _, _ => False
theorem p_Mo_told : zPu y_Mo_told 2 f_Mo_told g_Mo_told := by
  intro as μ h
  unfold g_Mo_told at h
  split at h
  · next q0 p x =>
    obtain ⟨rfl, h⟩ := h
    refine zSp.ss [vr 351, vi p, vi x] rfl (w_Mo_told (Nat.le_refl _)) rfl rfl ?_
    (try simp only [zit_e, Bool.and_eq_true, Bool.or_eq_true, Bool.not_eq_true', Bool.and_eq_false_iff, Bool.or_eq_false_iff, Bool.not_eq_false', zbe, zdt, zdf, zb2_p, zbp_0, zbp_1, zbp_inj, zbp_01, Bool.true_eq_false, Bool.false_eq_true, true_and, and_true, Decidable.not_not, Classical.not_not, implies_true, List.nil_append, List.cons_append, List.append_assoc, Option.some.injEq, Sum.inl.injEq, zSw_c, zSw_n]); (try simp only [zit_e, Bool.and_eq_true, Bool.or_eq_true, Bool.not_eq_true', Bool.and_eq_false_iff, Bool.or_eq_false_iff, Bool.not_eq_false', zbe, zdt, zdf, zb2_p, zbp_0, zbp_1, zbp_inj, zbp_01, Bool.true_eq_false, Bool.false_eq_true, true_and, and_true, Decidable.not_not, Classical.not_not, implies_true, List.nil_append, List.cons_append, List.append_assoc, Option.some.injEq, Sum.inl.injEq, zSw_c, zSw_n, f_Mo_told, zc_351, f_D_between, g_D_between]); (try simp only [zi_cs, zi_c0, zii_cs, zii_c0, zl_cs, zl_c0, zll_cs, zll_c0, zr_cs, zr_c0, zrr_cs, zrr_c0, zxs_cs, zxs_c0, zxx_cs, zxx_c0, zfree_c0, zfree_c1, zfree_cs, zfree_cz, zlong_i, zlong_r, zlong_x, zset_0, zset_s, true_and, and_true, Option.some.injEq, Sum.inl.injEq, Sum.inr.injEq, zb2_p, zbp_0, zbp_1, zbp_inj, zbp_01, Nat.zero_add, Nat.reduceAdd, implies_true, List.nil_append, List.cons_append, List.append_assoc, Int.not_lt, Int.not_le, Decidable.not_not, Int.zero_add, Int.reduceLE, Int.reduceLT, Int.reduceEq, Int.reduceNe, Int.reduceAdd, Int.reduceSub, Int.reduceMul, Int.reduceNeg, Int.reduceToNat, Nat.reduceMul, Nat.reduceLT, Nat.reduceEqDiff, and_self, ite_true, ite_false, zx1, zx2, zRecv, List.length_cons, List.length_nil, ne_eq, not_true_eq_false, not_false_eq_true, true_or, or_true, or_false, false_or, and_false, false_and, zf01, zf10, reduceCtorEq, zSw_c, zSw_n, zm_r, zit_T, zit_F, false_implies, true_implies, f_Mo_told, zc_351, f_D_between, g_D_between])
    refine ⟨⟨by ((try simp only [zI_e]); (first | done | omega | skip)), fun _ => ⟨⟨by ((try simp only [zI_e]); (first | done | omega | skip)), by ((try simp only [zI_e]); (first | done | omega | skip))⟩, by omega, by omega⟩⟩, ?_⟩
    by_cases c : (0 ≤ p ∧ p < μ 351 2) ∧ 0 ≤ x ∧ x ≤ 2
    · rw [zit_t c, zit_t (by omega)]
    · rw [zit_f c, zit_f (by omega)]
  · exact h.elim
theorem m_Mo_told : Cond.instanceMethod y_Mo_told.1 ∈ zTb ∧ Cond.selects y_Mo_told.1.cls y_Mo_told.1 y_Mo_told.1 ∈ zTb ∧ Cond.initialized y_Mo_told.1.cls ∈ zTb ∧ Cond.code y_Mo_told.1 y_Mo_told.2.1 y_Mo_told.2.2.1 y_Mo_told.2.2.2 ∈ zTb ∧ (y_Mo_told.1.cls ≠ "java/lang/invoke/MethodHandle" ∧ y_Mo_told.1.cls ≠ "java/lang/invoke/VarHandle" ∧ (parseMethodDescriptor y_Mo_told.1.desc).map (fun d => d.parameters.length) = some 2) ∧ y_Mo_told.2.2.1 ≤ 20 :=
  ⟨(zTb_in 1293 (by decide +kernel) (by decide +kernel)), (zTb_in 1294 (by decide +kernel) (by decide +kernel)), (zTb_in 150 (by decide +kernel) (by decide +kernel)), (zTb_in 1295 (by decide +kernel) (by decide +kernel)), by decide +kernel, by decide +kernel⟩
theorem lv_D_426 : zLv "DebtDoors" 426 y_Mo_told 2 4 := ⟨⟨(zTb_in 1292 (by decide +kernel) (by decide +kernel)), m_Mo_told.1, m_Mo_told.2.1, m_Mo_told.2.2⟩, _, rfl, rfl⟩
theorem nk_11_12 : zNk 11 12 = none := rfl
def y_D_drawn : zMt := (⟨"DebtDoors", "drawn", "(II)I"⟩, prog_1_method_62_code, 3, some .int)
theorem d_D_drawn_0 : decode prog_1_method_62_code 0 = .ok (.aload_n 0, 1) := by decide +kernel
theorem d_D_drawn_1 : decode prog_1_method_62_code 1 = .ok (.getfield 86, 3) := by decide +kernel
theorem d_D_drawn_4 : decode prog_1_method_62_code 4 = .ok (.iload_n 1, 1) := by decide +kernel
theorem d_D_drawn_5 : decode prog_1_method_62_code 5 = .ok (.iload_n 2, 1) := by decide +kernel
theorem d_D_drawn_6 : decode prog_1_method_62_code 6 = .ok (.invokevirtual 426, 3) := by decide +kernel
theorem d_D_drawn_9 : decode prog_1_method_62_code 9 = .ok (.ireturn, 1) := by decide +kernel
def w_D_drawn {d : Nat} (hd : 3 ≤ d) := (show SS ("DebtDoors", prog_1_method_62_code, 3) (some .int) d 0 0 0 0 _ from (sRi (xE (rV p_Mo_told (Nat.le_trans (Nat.le_of_ble_eq_true rfl) hd) lv_D_426 (rAi (rAi (rAr rA0 (rFr fl_D_86 nk_11_12 (rAn 0 d_D_drawn_0 rfl) d_D_drawn_1)) (rIn 1 d_D_drawn_4 rfl)) (rIn 2 d_D_drawn_5 rfl)) (by decide) d_D_drawn_6)) d_D_drawn_9 rfl))
noncomputable def f_D_drawn : List zV → zMem → Int
  | [.inr (.inr (.inl q0)), .inl p, .inl x], μ => if (0 ≤ p ∧ p < μ 351 2) ∧ 0 ≤ x ∧ x ≤ 2 then μ 352 (p * 3 + x) else -1000000
  | _, _ => 0
def g_D_drawn : List zV → zMem → Prop
  | [.inr (.inr (.inl q0)), .inl p, .inl x], μ => q0 = 0 ∧ (0 ≤ μ 351 2 ∧ μ 351 2 ≤ 7)
  | _, _ => False
theorem p_D_drawn : zPu y_D_drawn 3 f_D_drawn g_D_drawn := by
  intro as μ h
  unfold g_D_drawn at h
  split at h
  · next q0 p x =>
    obtain ⟨rfl, h⟩ := h
    refine zSp.ss [vr 0, vi p, vi x] rfl (w_D_drawn (Nat.le_refl _)) rfl rfl ?_
    (try simp only [zit_e, Bool.and_eq_true, Bool.or_eq_true, Bool.not_eq_true', Bool.and_eq_false_iff, Bool.or_eq_false_iff, Bool.not_eq_false', zbe, zdt, zdf, zb2_p, zbp_0, zbp_1, zbp_inj, zbp_01, Bool.true_eq_false, Bool.false_eq_true, true_and, and_true, Decidable.not_not, Classical.not_not, implies_true, List.nil_append, List.cons_append, List.append_assoc, Option.some.injEq, Sum.inl.injEq, zSw_c, zSw_n]); (try simp only [zit_e, Bool.and_eq_true, Bool.or_eq_true, Bool.not_eq_true', Bool.and_eq_false_iff, Bool.or_eq_false_iff, Bool.not_eq_false', zbe, zdt, zdf, zb2_p, zbp_0, zbp_1, zbp_inj, zbp_01, Bool.true_eq_false, Bool.false_eq_true, true_and, and_true, Decidable.not_not, Classical.not_not, implies_true, List.nil_append, List.cons_append, List.append_assoc, Option.some.injEq, Sum.inl.injEq, zSw_c, zSw_n, f_D_drawn, zc_0, zc_351, f_Mo_told, g_Mo_told]); (try simp only [zi_cs, zi_c0, zii_cs, zii_c0, zl_cs, zl_c0, zll_cs, zll_c0, zr_cs, zr_c0, zrr_cs, zrr_c0, zxs_cs, zxs_c0, zxx_cs, zxx_c0, zfree_c0, zfree_c1, zfree_cs, zfree_cz, zlong_i, zlong_r, zlong_x, zset_0, zset_s, true_and, and_true, Option.some.injEq, Sum.inl.injEq, Sum.inr.injEq, zb2_p, zbp_0, zbp_1, zbp_inj, zbp_01, Nat.zero_add, Nat.reduceAdd, implies_true, List.nil_append, List.cons_append, List.append_assoc, Int.not_lt, Int.not_le, Decidable.not_not, Int.zero_add, Int.reduceLE, Int.reduceLT, Int.reduceEq, Int.reduceNe, Int.reduceAdd, Int.reduceSub, Int.reduceMul, Int.reduceNeg, Int.reduceToNat, Nat.reduceMul, Nat.reduceLT, Nat.reduceEqDiff, and_self, ite_true, ite_false, zx1, zx2, zRecv, List.length_cons, List.length_nil, ne_eq, not_true_eq_false, not_false_eq_true, true_or, or_true, or_false, false_or, and_false, false_and, zf01, zf10, reduceCtorEq, zSw_c, zSw_n, zm_r, zit_T, zit_F, false_implies, true_implies, f_D_drawn, zc_0, zc_351, f_Mo_told, g_Mo_told])
    exact h
  · exact h.elim
theorem fl_M_514 : zFl "DebtDoorsModel" 514 12 59 := ⟨_, rfl, by decide, (zTb_in 1385 (by decide +kernel) (by decide +kernel)), rfl⟩
theorem nk_12_59 : zNk 12 59 = some 0 := rfl
theorem nk_12_58 : zNk 12 58 = none := rfl
theorem nk_12_57 : zNk 12 57 = none := rfl
theorem nk_12_56 : zNk 12 56 = none := rfl
def y_M_drawn : zMt := (⟨"DebtDoorsModel", "drawn", "(II)I"⟩, prog_14_method_142_code, 3, some .int)
theorem d_M_drawn_0 : decode prog_14_method_142_code 0 = .ok (.iload_n 1, 1) := by decide +kernel
theorem d_M_drawn_1 : decode prog_14_method_142_code 1 = .ok (.iconst 0, 1) := by decide +kernel
theorem d_M_drawn_2 : decode prog_14_method_142_code 2 = .ok (.aload_n 0, 1) := by decide +kernel
theorem d_M_drawn_3 : decode prog_14_method_142_code 3 = .ok (.getfield 514, 3) := by decide +kernel
theorem d_M_drawn_6 : decode prog_14_method_142_code 6 = .ok (.iconst 1, 1) := by decide +kernel
theorem d_M_drawn_7 : decode prog_14_method_142_code 7 = .ok (.isub, 1) := by decide +kernel
theorem d_M_drawn_8 : decode prog_14_method_142_code 8 = .ok (.invokestatic 123, 3) := by decide +kernel
theorem d_M_drawn_11 : decode prog_14_method_142_code 11 = .ok (.ifCond .ne 7, 3) := by decide +kernel
theorem d_M_drawn_14 : decode prog_14_method_142_code 14 = .ok (.ldc_w 467, 3) := by decide +kernel
theorem d_M_drawn_17 : decode prog_14_method_142_code 17 = .ok (.ireturn, 1) := by decide +kernel
theorem d_M_drawn_18 : decode prog_14_method_142_code 18 = .ok (.iload_n 2, 1) := by decide +kernel
theorem d_M_drawn_19 : decode prog_14_method_142_code 19 = .ok (.tableswitch 46 0 2 #[25, 32, 39], 25) := by decide +kernel
theorem d_M_drawn_44 : decode prog_14_method_142_code 44 = .ok (.aload_n 0, 1) := by decide +kernel
theorem d_M_drawn_45 : decode prog_14_method_142_code 45 = .ok (.getfield 114, 3) := by decide +kernel
theorem d_M_drawn_48 : decode prog_14_method_142_code 48 = .ok (.iload_n 1, 1) := by decide +kernel
theorem d_M_drawn_49 : decode prog_14_method_142_code 49 = .ok (.iaload, 1) := by decide +kernel
theorem d_M_drawn_50 : decode prog_14_method_142_code 50 = .ok (.ireturn, 1) := by decide +kernel
theorem d_M_drawn_51 : decode prog_14_method_142_code 51 = .ok (.aload_n 0, 1) := by decide +kernel
theorem d_M_drawn_52 : decode prog_14_method_142_code 52 = .ok (.getfield 117, 3) := by decide +kernel
theorem d_M_drawn_55 : decode prog_14_method_142_code 55 = .ok (.iload_n 1, 1) := by decide +kernel
theorem d_M_drawn_56 : decode prog_14_method_142_code 56 = .ok (.iaload, 1) := by decide +kernel
theorem d_M_drawn_57 : decode prog_14_method_142_code 57 = .ok (.ireturn, 1) := by decide +kernel
theorem d_M_drawn_58 : decode prog_14_method_142_code 58 = .ok (.aload_n 0, 1) := by decide +kernel
theorem d_M_drawn_59 : decode prog_14_method_142_code 59 = .ok (.getfield 120, 3) := by decide +kernel
theorem d_M_drawn_62 : decode prog_14_method_142_code 62 = .ok (.iload_n 1, 1) := by decide +kernel
theorem d_M_drawn_63 : decode prog_14_method_142_code 63 = .ok (.iaload, 1) := by decide +kernel
theorem d_M_drawn_64 : decode prog_14_method_142_code 64 = .ok (.ireturn, 1) := by decide +kernel
theorem d_M_drawn_65 : decode prog_14_method_142_code 65 = .ok (.ldc_w 467, 3) := by decide +kernel
theorem d_M_drawn_68 : decode prog_14_method_142_code 68 = .ok (.ireturn, 1) := by decide +kernel
def w_M_drawn {d : Nat} (hd : 2 ≤ d) := (show SS ("DebtDoorsModel", prog_14_method_142_code, 3) (some .int) d 0 0 0 0 _ from (sS (p1 := 18) (sIf (pn := 18) (tt := 14) (xC (rNot (rJ1 (tgt := 18) k_ne (rS p_M_lies (Nat.le_trans (Nat.le_of_ble_eq_true rfl) hd) ls_M_123 (rAi (rAi (rAi rA0 (rIn 1 d_M_drawn_0 rfl)) (rI d_M_drawn_1 rfl)) (r2 o_sub (rF 59 fl_M_514 nk_12_59 (rAn 0 d_M_drawn_2 rfl) d_M_drawn_3 rfl) (rI d_M_drawn_6 rfl) d_M_drawn_7)) (by decide) d_M_drawn_8) d_M_drawn_11 (by decide)))) (sRi (xE (rLw kc_M_467 d_M_drawn_14 rfl)) d_M_drawn_17 rfl)) (sSw (ts := [44, 51, 58]) (dt := 65) (rIn 2 d_M_drawn_18 rfl) d_M_drawn_19 (by decide) (by decide) (by decide) (zSwk_c (sRi (xE (rIa (rFr fl_M_114 nk_12_56 (rAn 0 d_M_drawn_44 rfl) d_M_drawn_45) (rIn 1 d_M_drawn_48 rfl) d_M_drawn_49)) d_M_drawn_50 rfl) (zSwk_c (sRi (xE (rIa (rFr fl_M_117 nk_12_57 (rAn 0 d_M_drawn_51 rfl) d_M_drawn_52) (rIn 1 d_M_drawn_55 rfl) d_M_drawn_56)) d_M_drawn_57 rfl) (zSwk_c (sRi (xE (rIa (rFr fl_M_120 nk_12_58 (rAn 0 d_M_drawn_58 rfl) d_M_drawn_59) (rIn 1 d_M_drawn_62 rfl) d_M_drawn_63)) d_M_drawn_64 rfl) zSwk_n))) (sRi (xE (rLw kc_M_467 d_M_drawn_65 rfl)) d_M_drawn_68 rfl))))
noncomputable def f_M_drawn : List zV → zMem → Int
  | [.inr (.inr (.inl q0)), .inl p, .inl x], μ => if 0 ≤ p ∧ p < μ 355 59 then (if x = 0 then μ 384 p else if x = 1 then μ 385 p else if x = 2 then μ 386 p else -1000000) else -1000000
  | _, _ => 0
def g_M_drawn : List zV → zMem → Prop
  | [.inr (.inr (.inl q0)), .inl p, .inl x], μ => q0 = 355 ∧ (0 ≤ μ 355 59 ∧ μ 355 59 ≤ 7)
  | _, _ => False
theorem p_M_drawn : zPu y_M_drawn 2 f_M_drawn g_M_drawn := by
  intro as μ h
  unfold g_M_drawn at h
  split at h
  · next q0 p x =>
    obtain ⟨rfl, h⟩ := h
    refine zSp.ss [vr 355, vi p, vi x] rfl (w_M_drawn (Nat.le_refl _)) rfl rfl ?_
    (try simp only [zit_e, Bool.and_eq_true, Bool.or_eq_true, Bool.not_eq_true', Bool.and_eq_false_iff, Bool.or_eq_false_iff, Bool.not_eq_false', zbe, zdt, zdf, zb2_p, zbp_0, zbp_1, zbp_inj, zbp_01, Bool.true_eq_false, Bool.false_eq_true, true_and, and_true, Decidable.not_not, Classical.not_not, implies_true, List.nil_append, List.cons_append, List.append_assoc, Option.some.injEq, Sum.inl.injEq, zSw_c, zSw_n]); (try simp only [zit_e, Bool.and_eq_true, Bool.or_eq_true, Bool.not_eq_true', Bool.and_eq_false_iff, Bool.or_eq_false_iff, Bool.not_eq_false', zbe, zdt, zdf, zb2_p, zbp_0, zbp_1, zbp_inj, zbp_01, Bool.true_eq_false, Bool.false_eq_true, true_and, and_true, Decidable.not_not, Classical.not_not, implies_true, List.nil_append, List.cons_append, List.append_assoc, Option.some.injEq, Sum.inl.injEq, zSw_c, zSw_n, f_M_drawn, zc_355, f_M_lies, g_M_lies]); (try simp only [zi_cs, zi_c0, zii_cs, zii_c0, zl_cs, zl_c0, zll_cs, zll_c0, zr_cs, zr_c0, zrr_cs, zrr_c0, zxs_cs, zxs_c0, zxx_cs, zxx_c0, zfree_c0, zfree_c1, zfree_cs, zfree_cz, zlong_i, zlong_r, zlong_x, zset_0, zset_s, true_and, and_true, Option.some.injEq, Sum.inl.injEq, Sum.inr.injEq, zb2_p, zbp_0, zbp_1, zbp_inj, zbp_01, Nat.zero_add, Nat.reduceAdd, implies_true, List.nil_append, List.cons_append, List.append_assoc, Int.not_lt, Int.not_le, Decidable.not_not, Int.zero_add, Int.reduceLE, Int.reduceLT, Int.reduceEq, Int.reduceNe, Int.reduceAdd, Int.reduceSub, Int.reduceMul, Int.reduceNeg, Int.reduceToNat, Nat.reduceMul, Nat.reduceLT, Nat.reduceEqDiff, and_self, ite_true, ite_false, zx1, zx2, zRecv, List.length_cons, List.length_nil, ne_eq, not_true_eq_false, not_false_eq_true, true_or, or_true, or_false, false_or, and_false, false_and, zf01, zf10, reduceCtorEq, zSw_c, zSw_n, zm_r, zit_T, zit_F, false_implies, true_implies, f_M_drawn, zc_355, f_M_lies, g_M_lies])
    refine ⟨by ((try simp only [zI_e]); (first | done | omega | skip)), ?_⟩
    refine zif (fun c => by rw [zit_f (by omega)]) (fun c => ?_)
    rw [zit_t (by omega)]
    refine zif (fun c1 => ⟨by omega, by rw [zit_t c1]⟩) (fun c1 => ?_)
    refine zif (fun c2 => ⟨by omega, by rw [zit_f c1, zit_t c2]⟩) (fun c2 => ?_)
    exact zif (fun c3 => ⟨by omega, by rw [zit_f c1, zit_f c2, zit_t c3]⟩) (fun c3 => by rw [zit_f c1, zit_f c2, zit_f c3])
  · exact h.elim
theorem fp_12_59 : zFp 12 59 0 := ⟨_, rfl, rfl, rfl, by decide⟩
theorem m_M_draws : Cond.instanceMethod y_M_draws.1 ∈ zTb ∧ Cond.selects y_M_draws.1.cls y_M_draws.1 y_M_draws.1 ∈ zTb ∧ Cond.initialized y_M_draws.1.cls ∈ zTb ∧ Cond.code y_M_draws.1 y_M_draws.2.1 y_M_draws.2.2.1 y_M_draws.2.2.2 ∈ zTb ∧ (y_M_draws.1.cls ≠ "java/lang/invoke/MethodHandle" ∧ y_M_draws.1.cls ≠ "java/lang/invoke/VarHandle" ∧ (parseMethodDescriptor y_M_draws.1.desc).map (fun d => d.parameters.length) = some 1) ∧ y_M_draws.2.2.1 ≤ 20 :=
  ⟨(zTb_in 2064 (by decide +kernel) (by decide +kernel)), (List.mem_filter.mpr ⟨List.mem_append_left _ (by decide +kernel), by decide +kernel⟩), (zTb_in 151 (by decide +kernel) (by decide +kernel)), (zTb_in 2065 (by decide +kernel) (by decide +kernel)), by decide +kernel, by decide +kernel⟩
theorem lv_M_517 : zLv "DebtDoorsModel" 517 y_M_draws 1 12 := ⟨⟨(zTb_in 2062 (by decide +kernel) (by decide +kernel)), m_M_draws.1, m_M_draws.2.1, m_M_draws.2.2⟩, _, rfl, rfl⟩
def y_M_month : zMt := (⟨"DebtDoorsModel", "month", "(II)I"⟩, prog_14_method_141_code, 12, some .int)
theorem d_M_month_0 : decode prog_14_method_141_code 0 = .ok (.iload_n 1, 1) := by decide +kernel
theorem d_M_month_1 : decode prog_14_method_141_code 1 = .ok (.iconst 0, 1) := by decide +kernel
theorem d_M_month_2 : decode prog_14_method_141_code 2 = .ok (.ldc 199, 2) := by decide +kernel
theorem d_M_month_4 : decode prog_14_method_141_code 4 = .ok (.invokestatic 123, 3) := by decide +kernel
theorem d_M_month_7 : decode prog_14_method_141_code 7 = .ok (.ifCond .eq 13, 3) := by decide +kernel
theorem d_M_month_10 : decode prog_14_method_141_code 10 = .ok (.iload_n 2, 1) := by decide +kernel
theorem d_M_month_11 : decode prog_14_method_141_code 11 = .ok (.iconst 1, 1) := by decide +kernel
theorem d_M_month_12 : decode prog_14_method_141_code 12 = .ok (.bipush 30, 2) := by decide +kernel
theorem d_M_month_14 : decode prog_14_method_141_code 14 = .ok (.invokestatic 123, 3) := by decide +kernel
theorem d_M_month_17 : decode prog_14_method_141_code 17 = .ok (.ifCond .ne 9, 3) := by decide +kernel
theorem d_M_month_20 : decode prog_14_method_141_code 20 = .ok (.aload_n 0, 1) := by decide +kernel
theorem d_M_month_21 : decode prog_14_method_141_code 21 = .ok (.iconst (-1), 1) := by decide +kernel
theorem d_M_month_22 : decode prog_14_method_141_code 22 = .ok (.invokevirtual 127, 3) := by decide +kernel
theorem d_M_month_25 : decode prog_14_method_141_code 25 = .ok (.ireturn, 1) := by decide +kernel
theorem d_M_month_26 : decode prog_14_method_141_code 26 = .ok (.aload_n 0, 1) := by decide +kernel
theorem d_M_month_27 : decode prog_14_method_141_code 27 = .ok (.invokevirtual 133, 3) := by decide +kernel
theorem d_M_month_30 : decode prog_14_method_141_code 30 = .ok (.ifCond .ne 10, 3) := by decide +kernel
theorem d_M_month_33 : decode prog_14_method_141_code 33 = .ok (.aload_n 0, 1) := by decide +kernel
theorem d_M_month_34 : decode prog_14_method_141_code 34 = .ok (.bipush (-3), 2) := by decide +kernel
theorem d_M_month_36 : decode prog_14_method_141_code 36 = .ok (.invokevirtual 127, 3) := by decide +kernel
theorem d_M_month_39 : decode prog_14_method_141_code 39 = .ok (.ireturn, 1) := by decide +kernel
theorem d_M_month_40 : decode prog_14_method_141_code 40 = .ok (.aload_n 0, 1) := by decide +kernel
theorem d_M_month_41 : decode prog_14_method_141_code 41 = .ok (.iload_n 1, 1) := by decide +kernel
theorem d_M_month_42 : decode prog_14_method_141_code 42 = .ok (.putfield 507, 3) := by decide +kernel
theorem d_M_month_45 : decode prog_14_method_141_code 45 = .ok (.aload_n 0, 1) := by decide +kernel
theorem d_M_month_46 : decode prog_14_method_141_code 46 = .ok (.aload_n 0, 1) := by decide +kernel
theorem d_M_month_47 : decode prog_14_method_141_code 47 = .ok (.invokevirtual 133, 3) := by decide +kernel
theorem d_M_month_50 : decode prog_14_method_141_code 50 = .ok (.putfield 514, 3) := by decide +kernel
theorem d_M_month_53 : decode prog_14_method_141_code 53 = .ok (.aload_n 0, 1) := by decide +kernel
theorem d_M_month_54 : decode prog_14_method_141_code 54 = .ok (.bipush 9, 2) := by decide +kernel
theorem d_M_month_56 : decode prog_14_method_141_code 56 = .ok (.invokevirtual 421, 3) := by decide +kernel
theorem d_M_month_59 : decode prog_14_method_141_code 59 = .ok (.iconst 0, 1) := by decide +kernel
theorem d_M_month_60 : decode prog_14_method_141_code 60 = .ok (.istore_n 3, 1) := by decide +kernel
theorem d_M_month_61 : decode prog_14_method_141_code 61 = .ok (.iconst 1, 1) := by decide +kernel
theorem d_M_month_62 : decode prog_14_method_141_code 62 = .ok (.istore 4, 2) := by decide +kernel
theorem d_M_month_64 : decode prog_14_method_141_code 64 = .ok (.iconst 0, 1) := by decide +kernel
theorem d_M_month_65 : decode prog_14_method_141_code 65 = .ok (.istore 5, 2) := by decide +kernel
theorem d_M_month_67 : decode prog_14_method_141_code 67 = .ok (.iload 5, 2) := by decide +kernel
theorem d_M_month_69 : decode prog_14_method_141_code 69 = .ok (.iload_n 2, 1) := by decide +kernel
theorem d_M_month_70 : decode prog_14_method_141_code 70 = .ok (.if_icmp .ge 159, 3) := by decide +kernel
theorem d_M_month_73 : decode prog_14_method_141_code 73 = .ok (.iload 4, 2) := by decide +kernel
theorem d_M_month_75 : decode prog_14_method_141_code 75 = .ok (.ifCond .eq 154, 3) := by decide +kernel
theorem d_M_month_78 : decode prog_14_method_141_code 78 = .ok (.aload_n 0, 1) := by decide +kernel
theorem d_M_month_79 : decode prog_14_method_141_code 79 = .ok (.aload_n 0, 1) := by decide +kernel
theorem d_M_month_80 : decode prog_14_method_141_code 80 = .ok (.getfield 514, 3) := by decide +kernel
theorem d_M_month_83 : decode prog_14_method_141_code 83 = .ok (.invokevirtual 517, 3) := by decide +kernel
theorem d_M_month_86 : decode prog_14_method_141_code 86 = .ok (.istore 6, 2) := by decide +kernel
theorem d_M_month_88 : decode prog_14_method_141_code 88 = .ok (.aload_n 0, 1) := by decide +kernel
theorem d_M_month_89 : decode prog_14_method_141_code 89 = .ok (.aload_n 0, 1) := by decide +kernel
theorem d_M_month_90 : decode prog_14_method_141_code 90 = .ok (.getfield 514, 3) := by decide +kernel
theorem d_M_month_93 : decode prog_14_method_141_code 93 = .ok (.invokevirtual 517, 3) := by decide +kernel
theorem d_M_month_96 : decode prog_14_method_141_code 96 = .ok (.istore 7, 2) := by decide +kernel
theorem d_M_month_98 : decode prog_14_method_141_code 98 = .ok (.aload_n 0, 1) := by decide +kernel
theorem d_M_month_99 : decode prog_14_method_141_code 99 = .ok (.bipush 50, 2) := by decide +kernel
theorem d_M_month_101 : decode prog_14_method_141_code 101 = .ok (.invokevirtual 517, 3) := by decide +kernel
theorem d_M_month_104 : decode prog_14_method_141_code 104 = .ok (.iconst 1, 1) := by decide +kernel
theorem d_M_month_105 : decode prog_14_method_141_code 105 = .ok (.iadd, 1) := by decide +kernel
theorem d_M_month_106 : decode prog_14_method_141_code 106 = .ok (.istore 8, 2) := by decide +kernel
theorem d_M_month_108 : decode prog_14_method_141_code 108 = .ok (.aload_n 0, 1) := by decide +kernel
theorem d_M_month_109 : decode prog_14_method_141_code 109 = .ok (.iload 6, 2) := by decide +kernel
theorem d_M_month_111 : decode prog_14_method_141_code 111 = .ok (.iload 7, 2) := by decide +kernel
theorem d_M_month_113 : decode prog_14_method_141_code 113 = .ok (.iload 8, 2) := by decide +kernel
theorem d_M_month_115 : decode prog_14_method_141_code 115 = .ok (.invokevirtual 354, 3) := by decide +kernel
theorem d_M_month_118 : decode prog_14_method_141_code 118 = .ok (.ifCond .eq 27, 3) := by decide +kernel
theorem d_M_month_121 : decode prog_14_method_141_code 121 = .ok (.aload_n 0, 1) := by decide +kernel
theorem d_M_month_122 : decode prog_14_method_141_code 122 = .ok (.invokevirtual 137, 3) := by decide +kernel
theorem d_M_month_125 : decode prog_14_method_141_code 125 = .ok (.bipush 16, 2) := by decide +kernel
theorem d_M_month_127 : decode prog_14_method_141_code 127 = .ok (.if_icmp .ge 18, 3) := by decide +kernel
theorem d_M_month_130 : decode prog_14_method_141_code 130 = .ok (.aload_n 0, 1) := by decide +kernel
theorem d_M_month_131 : decode prog_14_method_141_code 131 = .ok (.iload 6, 2) := by decide +kernel
theorem d_M_month_133 : decode prog_14_method_141_code 133 = .ok (.iload 7, 2) := by decide +kernel
theorem d_M_month_135 : decode prog_14_method_141_code 135 = .ok (.iload 8, 2) := by decide +kernel
theorem d_M_month_137 : decode prog_14_method_141_code 137 = .ok (.invokevirtual 360, 3) := by decide +kernel
theorem d_M_month_140 : decode prog_14_method_141_code 140 = .ok (.iload_n 3, 1) := by decide +kernel
theorem d_M_month_141 : decode prog_14_method_141_code 141 = .ok (.iload 8, 2) := by decide +kernel
theorem d_M_month_143 : decode prog_14_method_141_code 143 = .ok (.iadd, 1) := by decide +kernel
theorem d_M_month_144 : decode prog_14_method_141_code 144 = .ok (.istore_n 3, 1) := by decide +kernel
theorem d_M_month_145 : decode prog_14_method_141_code 145 = .ok (.aload_n 0, 1) := by decide +kernel
theorem d_M_month_146 : decode prog_14_method_141_code 146 = .ok (.aload_n 0, 1) := by decide +kernel
theorem d_M_month_147 : decode prog_14_method_141_code 147 = .ok (.getfield 514, 3) := by decide +kernel
theorem d_M_month_150 : decode prog_14_method_141_code 150 = .ok (.invokevirtual 517, 3) := by decide +kernel
theorem d_M_month_153 : decode prog_14_method_141_code 153 = .ok (.istore 9, 2) := by decide +kernel
theorem d_M_month_155 : decode prog_14_method_141_code 155 = .ok (.aload_n 0, 1) := by decide +kernel
theorem d_M_month_156 : decode prog_14_method_141_code 156 = .ok (.aload_n 0, 1) := by decide +kernel
theorem d_M_month_157 : decode prog_14_method_141_code 157 = .ok (.getfield 514, 3) := by decide +kernel
theorem d_M_month_160 : decode prog_14_method_141_code 160 = .ok (.invokevirtual 517, 3) := by decide +kernel
theorem d_M_month_163 : decode prog_14_method_141_code 163 = .ok (.istore 10, 2) := by decide +kernel
theorem d_M_month_165 : decode prog_14_method_141_code 165 = .ok (.aload_n 0, 1) := by decide +kernel
theorem d_M_month_166 : decode prog_14_method_141_code 166 = .ok (.iload 9, 2) := by decide +kernel
theorem d_M_month_168 : decode prog_14_method_141_code 168 = .ok (.iload 10, 2) := by decide +kernel
theorem d_M_month_170 : decode prog_14_method_141_code 170 = .ok (.ldc_w 445, 3) := by decide +kernel
theorem d_M_month_173 : decode prog_14_method_141_code 173 = .ok (.invokevirtual 369, 3) := by decide +kernel
theorem d_M_month_176 : decode prog_14_method_141_code 176 = .ok (.istore 11, 2) := by decide +kernel
theorem d_M_month_178 : decode prog_14_method_141_code 178 = .ok (.iload 11, 2) := by decide +kernel
theorem d_M_month_180 : decode prog_14_method_141_code 180 = .ok (.ifCond .le 13, 3) := by decide +kernel
theorem d_M_month_183 : decode prog_14_method_141_code 183 = .ok (.aload_n 0, 1) := by decide +kernel
theorem d_M_month_184 : decode prog_14_method_141_code 184 = .ok (.iload 9, 2) := by decide +kernel
theorem d_M_month_186 : decode prog_14_method_141_code 186 = .ok (.iload 10, 2) := by decide +kernel
theorem d_M_month_188 : decode prog_14_method_141_code 188 = .ok (.iload 11, 2) := by decide +kernel
theorem d_M_month_190 : decode prog_14_method_141_code 190 = .ok (.invokevirtual 372, 3) := by decide +kernel
theorem d_M_month_193 : decode prog_14_method_141_code 193 = .ok (.aload_n 0, 1) := by decide +kernel
theorem d_M_month_194 : decode prog_14_method_141_code 194 = .ok (.getfield 24, 3) := by decide +kernel
theorem d_M_month_197 : decode prog_14_method_141_code 197 = .ok (.bipush 72, 2) := by decide +kernel
theorem d_M_month_199 : decode prog_14_method_141_code 199 = .ok (.iaload, 1) := by decide +kernel
theorem d_M_month_200 : decode prog_14_method_141_code 200 = .ok (.sipush 999, 3) := by decide +kernel
theorem d_M_month_203 : decode prog_14_method_141_code 203 = .ok (.if_icmp .ge 7, 3) := by decide +kernel
theorem d_M_month_206 : decode prog_14_method_141_code 206 = .ok (.iconst 1, 1) := by decide +kernel
theorem d_M_month_207 : decode prog_14_method_141_code 207 = .ok (.goto 4, 3) := by decide +kernel
theorem d_M_month_210 : decode prog_14_method_141_code 210 = .ok (.iconst 0, 1) := by decide +kernel
theorem d_M_month_211 : decode prog_14_method_141_code 211 = .ok (.istore 4, 2) := by decide +kernel
theorem d_M_month_213 : decode prog_14_method_141_code 213 = .ok (.iload 4, 2) := by decide +kernel
theorem d_M_month_215 : decode prog_14_method_141_code 215 = .ok (.ifCond .eq 8, 3) := by decide +kernel
theorem d_M_month_218 : decode prog_14_method_141_code 218 = .ok (.aload_n 0, 1) := by decide +kernel
theorem d_M_month_219 : decode prog_14_method_141_code 219 = .ok (.invokevirtual 375, 3) := by decide +kernel
theorem d_M_month_222 : decode prog_14_method_141_code 222 = .ok (.pop, 1) := by decide +kernel
theorem d_M_month_223 : decode prog_14_method_141_code 223 = .ok (.iinc 5 1, 3) := by decide +kernel
theorem d_M_month_226 : decode prog_14_method_141_code 226 = .ok (.goto (-159), 3) := by decide +kernel
theorem d_M_month_229 : decode prog_14_method_141_code 229 = .ok (.iconst 0, 1) := by decide +kernel
theorem d_M_month_230 : decode prog_14_method_141_code 230 = .ok (.istore 5, 2) := by decide +kernel
theorem d_M_month_232 : decode prog_14_method_141_code 232 = .ok (.iload 5, 2) := by decide +kernel
theorem d_M_month_234 : decode prog_14_method_141_code 234 = .ok (.aload_n 0, 1) := by decide +kernel
theorem d_M_month_235 : decode prog_14_method_141_code 235 = .ok (.getfield 514, 3) := by decide +kernel
theorem d_M_month_238 : decode prog_14_method_141_code 238 = .ok (.if_icmp .ge 54, 3) := by decide +kernel
theorem d_M_month_241 : decode prog_14_method_141_code 241 = .ok (.aload_n 0, 1) := by decide +kernel
theorem d_M_month_242 : decode prog_14_method_141_code 242 = .ok (.getfield 114, 3) := by decide +kernel
theorem d_M_month_245 : decode prog_14_method_141_code 245 = .ok (.iload 5, 2) := by decide +kernel
theorem d_M_month_247 : decode prog_14_method_141_code 247 = .ok (.aload_n 0, 1) := by decide +kernel
theorem d_M_month_248 : decode prog_14_method_141_code 248 = .ok (.getfield 24, 3) := by decide +kernel
theorem d_M_month_251 : decode prog_14_method_141_code 251 = .ok (.iconst 0, 1) := by decide +kernel
theorem d_M_month_252 : decode prog_14_method_141_code 252 = .ok (.iload 5, 2) := by decide +kernel
theorem d_M_month_254 : decode prog_14_method_141_code 254 = .ok (.iadd, 1) := by decide +kernel
theorem d_M_month_255 : decode prog_14_method_141_code 255 = .ok (.iaload, 1) := by decide +kernel
theorem d_M_month_256 : decode prog_14_method_141_code 256 = .ok (.iastore, 1) := by decide +kernel
theorem d_M_month_257 : decode prog_14_method_141_code 257 = .ok (.aload_n 0, 1) := by decide +kernel
theorem d_M_month_258 : decode prog_14_method_141_code 258 = .ok (.getfield 117, 3) := by decide +kernel
theorem d_M_month_261 : decode prog_14_method_141_code 261 = .ok (.iload 5, 2) := by decide +kernel
theorem d_M_month_263 : decode prog_14_method_141_code 263 = .ok (.aload_n 0, 1) := by decide +kernel
theorem d_M_month_264 : decode prog_14_method_141_code 264 = .ok (.iload 5, 2) := by decide +kernel
theorem d_M_month_266 : decode prog_14_method_141_code 266 = .ok (.invokevirtual 464, 3) := by decide +kernel
theorem d_M_month_269 : decode prog_14_method_141_code 269 = .ok (.iastore, 1) := by decide +kernel
theorem d_M_month_270 : decode prog_14_method_141_code 270 = .ok (.aload_n 0, 1) := by decide +kernel
theorem d_M_month_271 : decode prog_14_method_141_code 271 = .ok (.getfield 120, 3) := by decide +kernel
theorem d_M_month_274 : decode prog_14_method_141_code 274 = .ok (.iload 5, 2) := by decide +kernel
theorem d_M_month_276 : decode prog_14_method_141_code 276 = .ok (.aload_n 0, 1) := by decide +kernel
theorem d_M_month_277 : decode prog_14_method_141_code 277 = .ok (.iload 5, 2) := by decide +kernel
theorem d_M_month_279 : decode prog_14_method_141_code 279 = .ok (.invokevirtual 351, 3) := by decide +kernel
theorem d_M_month_282 : decode prog_14_method_141_code 282 = .ok (.invokestatic 436, 3) := by decide +kernel
theorem d_M_month_285 : decode prog_14_method_141_code 285 = .ok (.iastore, 1) := by decide +kernel
theorem d_M_month_286 : decode prog_14_method_141_code 286 = .ok (.iinc 5 1, 3) := by decide +kernel
theorem d_M_month_289 : decode prog_14_method_141_code 289 = .ok (.goto (-57), 3) := by decide +kernel
theorem d_M_month_292 : decode prog_14_method_141_code 292 = .ok (.aload_n 0, 1) := by decide +kernel
theorem d_M_month_293 : decode prog_14_method_141_code 293 = .ok (.bipush 9, 2) := by decide +kernel
theorem d_M_month_295 : decode prog_14_method_141_code 295 = .ok (.invokevirtual 427, 3) := by decide +kernel
theorem d_M_month_298 : decode prog_14_method_141_code 298 = .ok (.aload_n 0, 1) := by decide +kernel
theorem d_M_month_299 : decode prog_14_method_141_code 299 = .ok (.iload_n 3, 1) := by decide +kernel
theorem d_M_month_300 : decode prog_14_method_141_code 300 = .ok (.invokevirtual 14, 3) := by decide +kernel
theorem d_M_month_303 : decode prog_14_method_141_code 303 = .ok (.ireturn, 1) := by decide +kernel
def w_M_month {d : Nat} (hd : 4 ≤ d) := (show SS ("DebtDoorsModel", prog_14_method_141_code, 12) (some .int) d 0 0 0 0 _ from (sS (p1 := 26) (sIf (pn := 26) (tt := 20) (xC (rOr (mm := 10) (rNot (rNot (rJ1 (tgt := 20) k_eq (rS p_M_lies (Nat.le_trans (Nat.le_of_ble_eq_true rfl) hd) ls_M_123 (rAi (rAi (rAi rA0 (rIn 1 d_M_month_0 rfl)) (rI d_M_month_1 rfl)) (rLd kc_M_199 d_M_month_2 rfl)) (by decide) d_M_month_4) d_M_month_7 (by decide)))) (rNot (rJ1 (tgt := 26) k_ne (rS p_M_lies (Nat.le_trans (Nat.le_of_ble_eq_true rfl) hd) ls_M_123 (rAi (rAi (rAi rA0 (rIn 2 d_M_month_10 rfl)) (rI d_M_month_11 rfl)) (rB d_M_month_12 rfl)) (by decide) d_M_month_14) d_M_month_17 (by decide))))) (sRi (xV lv_M_127 (xA (rAi (rAr rA0 (rAn 0 d_M_month_20 rfl)) (rI d_M_month_21 rfl))) (by decide) d_M_month_22) d_M_month_25 rfl)) (sS (p1 := 40) (sIf (pn := 40) (tt := 33) (xC (rNot (rJ1 (tgt := 40) k_ne (rV p_M_people (Nat.le_trans (Nat.le_of_ble_eq_true rfl) hd) lv_M_133 (rAr rA0 (rAn 0 d_M_month_26 rfl)) (by decide) d_M_month_27) d_M_month_30 (by decide)))) (sRi (xV lv_M_127 (xA (rAi (rAr rA0 (rAn 0 d_M_month_33 rfl)) (rB d_M_month_34 rfl))) (by decide) d_M_month_36) d_M_month_39 rfl)) (sS (p1 := 45) (sP 60 fl_M_507 fp_12_60 nk_12_60 (rAn 0 d_M_month_40 rfl) (xE (rIn 1 d_M_month_41 rfl)) d_M_month_42 rfl) (sS (p1 := 53) (sP 59 fl_M_514 fp_12_59 nk_12_59 (rAn 0 d_M_month_45 rfl) (xE (rV p_M_people (Nat.le_trans (Nat.le_of_ble_eq_true rfl) hd) lv_M_133 (rAr rA0 (rAn 0 d_M_month_46 rfl)) (by decide) d_M_month_47)) d_M_month_50 rfl) (sS (p1 := 59) (sV (xVv lv_M_421 (xA (rAi (rAr rA0 (rAn 0 d_M_month_53 rfl)) (rB d_M_month_54 rfl))) (by decide) d_M_month_56)) (sS (p1 := 61) (sIn 3 (xE (rI d_M_month_59 rfl)) d_M_month_60 rfl (by decide)) (sS (p1 := 64) (sI (xE (rI d_M_month_61 rfl)) d_M_month_62 (by decide)) (sS (p1 := 229) (sS (p1 := 67) (sI (xE (rI d_M_month_64 rfl)) d_M_month_65 (by decide)) (sLp (ps := 223) (tt := 78) (pn := 229) (p1 := 0) (p2 := 0) (xC (rAnd (mm := 73) (rNot (rJ2 (tgt := 229) j_ge (rIl d_M_month_67) (rIn 2 d_M_month_69 rfl) d_M_month_70 (by decide))) (rNot (rJ1 (tgt := 229) k_eq (rIl d_M_month_73) d_M_month_75 (by decide))))) (sS (p1 := 88) (sI (xV lv_M_517 (xA (rAi (rAr rA0 (rAn 0 d_M_month_78 rfl)) (rF 59 fl_M_514 nk_12_59 (rAn 0 d_M_month_79 rfl) d_M_month_80 rfl))) (by decide) d_M_month_83) d_M_month_86 (by decide)) (sS (p1 := 98) (sI (xV lv_M_517 (xA (rAi (rAr rA0 (rAn 0 d_M_month_88 rfl)) (rF 59 fl_M_514 nk_12_59 (rAn 0 d_M_month_89 rfl) d_M_month_90 rfl))) (by decide) d_M_month_93) d_M_month_96 (by decide)) (sS (p1 := 108) (sI (xx2 o_add (xV lv_M_517 (xA (rAi (rAr rA0 (rAn 0 d_M_month_98 rfl)) (rB d_M_month_99 rfl))) (by decide) d_M_month_101) (xE (rI d_M_month_104 rfl)) d_M_month_105) d_M_month_106 (by decide)) (sS (p1 := 145) (sIf (pn := 145) (tt := 130) (xC (rAnd (mm := 121) (rNot (rJ1 (tgt := 145) k_eq (rV p_M_canLend (Nat.le_trans (Nat.le_of_ble_eq_true rfl) hd) lv_M_354 (rAi (rAi (rAi (rAr rA0 (rAn 0 d_M_month_108 rfl)) (rIl d_M_month_109)) (rIl d_M_month_111)) (rIl d_M_month_113)) (by decide) d_M_month_115) d_M_month_118 (by decide))) (rNot (rJ2 (tgt := 145) j_ge (rV p_M_debts (Nat.le_trans (Nat.le_of_ble_eq_true rfl) hd) lv_M_137 (rAr rA0 (rAn 0 d_M_month_121 rfl)) (by decide) d_M_month_122) (rB d_M_month_125 rfl) d_M_month_127 (by decide))))) (sS (p1 := 140) (sV (xVv lv_M_360 (xA (rAi (rAi (rAi (rAr rA0 (rAn 0 d_M_month_130 rfl)) (rIl d_M_month_131)) (rIl d_M_month_133)) (rIl d_M_month_135))) (by decide) d_M_month_137)) (sIn 3 (xE (r2 o_add (rIn 3 d_M_month_140 rfl) (rIl d_M_month_141) d_M_month_143)) d_M_month_144 rfl (by decide)))) (sS (p1 := 155) (sI (xV lv_M_517 (xA (rAi (rAr rA0 (rAn 0 d_M_month_145 rfl)) (rF 59 fl_M_514 nk_12_59 (rAn 0 d_M_month_146 rfl) d_M_month_147 rfl))) (by decide) d_M_month_150) d_M_month_153 (by decide)) (sS (p1 := 165) (sI (xV lv_M_517 (xA (rAi (rAr rA0 (rAn 0 d_M_month_155 rfl)) (rF 59 fl_M_514 nk_12_59 (rAn 0 d_M_month_156 rfl) d_M_month_157 rfl))) (by decide) d_M_month_160) d_M_month_163 (by decide)) (sS (p1 := 178) (sI (xE (rV p_M_canRepay (Nat.le_trans (Nat.le_of_ble_eq_true rfl) hd) lv_M_369 (rAi (rAi (rAi (rAr rA0 (rAn 0 d_M_month_165 rfl)) (rIl d_M_month_166)) (rIl d_M_month_168)) (rLw kc_M_445 d_M_month_170 rfl)) (by decide) d_M_month_173)) d_M_month_176 (by decide)) (sS (p1 := 193) (sIf (pn := 193) (tt := 183) (xC (rNot (rJ1 (tgt := 193) k_le (rIl d_M_month_178) d_M_month_180 (by decide)))) (sV (xVv lv_M_372 (xA (rAi (rAi (rAi (rAr rA0 (rAn 0 d_M_month_183 rfl)) (rIl d_M_month_184)) (rIl d_M_month_186)) (rIl d_M_month_188))) (by decide) d_M_month_190))) (sS (p1 := 213) (sI (xE (rTb (rNot (rJ2 (tgt := 210) j_ge (rIa (rFr fl_M_24 nk_12_2 (rAn 0 d_M_month_193 rfl) d_M_month_194) (rB d_M_month_197 rfl) d_M_month_199) (rSi d_M_month_200 rfl) d_M_month_203 (by decide))) (rGoE (p2 := 211) (rI d_M_month_206 rfl) d_M_month_207 (by decide)) (rI d_M_month_210 rfl))) d_M_month_211 (by decide)) (sIf (pn := 223) (tt := 218) (xC (rNot (rJ1 (tgt := 223) k_eq (rIl d_M_month_213) d_M_month_215 (by decide)))) (sVp (xV lv_M_375 (xA (rAr rA0 (rAn 0 d_M_month_218 rfl))) (by decide) d_M_month_219) d_M_month_222))))))))))) (sGo (pn := 67) (sInc d_M_month_223 (by decide)) d_M_month_226 (by decide)))) (sS (p1 := 292) (sS (p1 := 232) (sI (xE (rI d_M_month_229 rfl)) d_M_month_230 (by decide)) (sLp (ps := 286) (tt := 241) (pn := 292) (p1 := 0) (p2 := 0) (xC (rNot (rJ2 (tgt := 292) j_ge (rIl d_M_month_232) (rF 59 fl_M_514 nk_12_59 (rAn 0 d_M_month_234 rfl) d_M_month_235 rfl) d_M_month_238 (by decide)))) (sS (p1 := 257) (sAs (rFr fl_M_114 nk_12_56 (rAn 0 d_M_month_241 rfl) d_M_month_242) (rIl d_M_month_245) (xE (rIa (rFr fl_M_24 nk_12_2 (rAn 0 d_M_month_247 rfl) d_M_month_248) (r2 o_add (rI d_M_month_251 rfl) (rIl d_M_month_252) d_M_month_254) d_M_month_255)) d_M_month_256) (sS (p1 := 270) (sAs (rFr fl_M_117 nk_12_57 (rAn 0 d_M_month_257 rfl) d_M_month_258) (rIl d_M_month_261) (xE (rV p_M_balanceOf (Nat.le_trans (Nat.le_of_ble_eq_true rfl) hd) lv_M_464 (rAi (rAr rA0 (rAn 0 d_M_month_263 rfl)) (rIl d_M_month_264)) (by decide) d_M_month_266)) d_M_month_269) (sAs (rFr fl_M_120 nk_12_58 (rAn 0 d_M_month_270 rfl) d_M_month_271) (rIl d_M_month_274) (xS ls_M_436 (xAi (xA rA0) (xV lv_M_351 (xA (rAi (rAr rA0 (rAn 0 d_M_month_276 rfl)) (rIl d_M_month_277))) (by decide) d_M_month_279)) (by decide) d_M_month_282) d_M_month_285))) (sGo (pn := 232) (sInc d_M_month_286 (by decide)) d_M_month_289 (by decide)))) (sS (p1 := 298) (sV (xVv lv_M_427 (xA (rAi (rAr rA0 (rAn 0 d_M_month_292 rfl)) (rB d_M_month_293 rfl))) (by decide) d_M_month_295)) (sRi (xV lv_M_14 (xA (rAi (rAr rA0 (rAn 0 d_M_month_298 rfl)) (rIn 3 d_M_month_299 rfl))) (by decide) d_M_month_300) d_M_month_303 rfl))))))))))))
def y_Mo_keep : zMt := (⟨"DebtDoors$Month", "keep", "(IIII)V"⟩, prog_6_method_4_code, 5, none)
theorem d_Mo_keep_0 : decode prog_6_method_4_code 0 = .ok (.aload_n 0, 1) := by decide +kernel
theorem d_Mo_keep_1 : decode prog_6_method_4_code 1 = .ok (.getfield 11, 3) := by decide +kernel
theorem d_Mo_keep_4 : decode prog_6_method_4_code 4 = .ok (.iload_n 1, 1) := by decide +kernel
theorem d_Mo_keep_5 : decode prog_6_method_4_code 5 = .ok (.iconst 3, 1) := by decide +kernel
theorem d_Mo_keep_6 : decode prog_6_method_4_code 6 = .ok (.imul, 1) := by decide +kernel
theorem d_Mo_keep_7 : decode prog_6_method_4_code 7 = .ok (.iload_n 2, 1) := by decide +kernel
theorem d_Mo_keep_8 : decode prog_6_method_4_code 8 = .ok (.iastore, 1) := by decide +kernel
theorem d_Mo_keep_9 : decode prog_6_method_4_code 9 = .ok (.aload_n 0, 1) := by decide +kernel
theorem d_Mo_keep_10 : decode prog_6_method_4_code 10 = .ok (.getfield 11, 3) := by decide +kernel
theorem d_Mo_keep_13 : decode prog_6_method_4_code 13 = .ok (.iload_n 1, 1) := by decide +kernel
theorem d_Mo_keep_14 : decode prog_6_method_4_code 14 = .ok (.iconst 3, 1) := by decide +kernel
theorem d_Mo_keep_15 : decode prog_6_method_4_code 15 = .ok (.imul, 1) := by decide +kernel
theorem d_Mo_keep_16 : decode prog_6_method_4_code 16 = .ok (.iconst 1, 1) := by decide +kernel
theorem d_Mo_keep_17 : decode prog_6_method_4_code 17 = .ok (.iadd, 1) := by decide +kernel
theorem d_Mo_keep_18 : decode prog_6_method_4_code 18 = .ok (.iload_n 3, 1) := by decide +kernel
theorem d_Mo_keep_19 : decode prog_6_method_4_code 19 = .ok (.iastore, 1) := by decide +kernel
theorem d_Mo_keep_20 : decode prog_6_method_4_code 20 = .ok (.aload_n 0, 1) := by decide +kernel
theorem d_Mo_keep_21 : decode prog_6_method_4_code 21 = .ok (.getfield 11, 3) := by decide +kernel
theorem d_Mo_keep_24 : decode prog_6_method_4_code 24 = .ok (.iload_n 1, 1) := by decide +kernel
theorem d_Mo_keep_25 : decode prog_6_method_4_code 25 = .ok (.iconst 3, 1) := by decide +kernel
theorem d_Mo_keep_26 : decode prog_6_method_4_code 26 = .ok (.imul, 1) := by decide +kernel
theorem d_Mo_keep_27 : decode prog_6_method_4_code 27 = .ok (.iconst 2, 1) := by decide +kernel
theorem d_Mo_keep_28 : decode prog_6_method_4_code 28 = .ok (.iadd, 1) := by decide +kernel
theorem d_Mo_keep_29 : decode prog_6_method_4_code 29 = .ok (.iload 4, 2) := by decide +kernel
theorem d_Mo_keep_31 : decode prog_6_method_4_code 31 = .ok (.iastore, 1) := by decide +kernel
theorem d_Mo_keep_32 : decode prog_6_method_4_code 32 = .ok (.return_, 1) := by decide +kernel
def w_Mo_keep {d : Nat} (hd : 1 ≤ d) := (show SS ("DebtDoors$Month", prog_6_method_4_code, 5) (none) d 0 0 0 0 _ from (sS (p1 := 9) (sAs (rFr fl_Mo_11 nk_4_0 (rAn 0 d_Mo_keep_0 rfl) d_Mo_keep_1) (r2 o_mul (rIn 1 d_Mo_keep_4 rfl) (rI d_Mo_keep_5 rfl) d_Mo_keep_6) (xE (rIn 2 d_Mo_keep_7 rfl)) d_Mo_keep_8) (sS (p1 := 20) (sAs (rFr fl_Mo_11 nk_4_0 (rAn 0 d_Mo_keep_9 rfl) d_Mo_keep_10) (r2 o_add (r2 o_mul (rIn 1 d_Mo_keep_13 rfl) (rI d_Mo_keep_14 rfl) d_Mo_keep_15) (rI d_Mo_keep_16 rfl) d_Mo_keep_17) (xE (rIn 3 d_Mo_keep_18 rfl)) d_Mo_keep_19) (sS (p1 := 32) (sAs (rFr fl_Mo_11 nk_4_0 (rAn 0 d_Mo_keep_20 rfl) d_Mo_keep_21) (r2 o_add (r2 o_mul (rIn 1 d_Mo_keep_24 rfl) (rI d_Mo_keep_25 rfl) d_Mo_keep_26) (rI d_Mo_keep_27 rfl) d_Mo_keep_28) (xE (rIl d_Mo_keep_29)) d_Mo_keep_31) (sRv d_Mo_keep_32 rfl)))))
theorem kc_D_412 : Cond.constant "DebtDoors" 412 (Int32.ofInt 1000000) ∈ zTb := (zTb_in 1269 (by decide +kernel) (by decide +kernel))
theorem m_Mo_pass : Cond.instanceMethod y_Mo_pass.1 ∈ zTb ∧ Cond.selects y_Mo_pass.1.cls y_Mo_pass.1 y_Mo_pass.1 ∈ zTb ∧ Cond.initialized y_Mo_pass.1.cls ∈ zTb ∧ Cond.code y_Mo_pass.1 y_Mo_pass.2.1 y_Mo_pass.2.2.1 y_Mo_pass.2.2.2 ∈ zTb ∧ (y_Mo_pass.1.cls ≠ "java/lang/invoke/MethodHandle" ∧ y_Mo_pass.1.cls ≠ "java/lang/invoke/VarHandle" ∧ (parseMethodDescriptor y_Mo_pass.1.desc).map (fun d => d.parameters.length) = some 4) ∧ y_Mo_pass.2.2.1 ≤ 20 :=
  ⟨(zTb_in 1271 (by decide +kernel) (by decide +kernel)), (zTb_in 1272 (by decide +kernel) (by decide +kernel)), (zTb_in 150 (by decide +kernel) (by decide +kernel)), (zTb_in 1273 (by decide +kernel) (by decide +kernel)), by decide +kernel, by decide +kernel⟩
theorem lv_D_413 : zLv "DebtDoors" 413 y_Mo_pass 4 4 := ⟨⟨(zTb_in 1270 (by decide +kernel) (by decide +kernel)), m_Mo_pass.1, m_Mo_pass.2.1, m_Mo_pass.2.2⟩, _, rfl, rfl⟩
theorem m_Mo_keep : Cond.instanceMethod y_Mo_keep.1 ∈ zTb ∧ Cond.selects y_Mo_keep.1.cls y_Mo_keep.1 y_Mo_keep.1 ∈ zTb ∧ Cond.initialized y_Mo_keep.1.cls ∈ zTb ∧ Cond.code y_Mo_keep.1 y_Mo_keep.2.1 y_Mo_keep.2.2.1 y_Mo_keep.2.2.2 ∈ zTb ∧ (y_Mo_keep.1.cls ≠ "java/lang/invoke/MethodHandle" ∧ y_Mo_keep.1.cls ≠ "java/lang/invoke/VarHandle" ∧ (parseMethodDescriptor y_Mo_keep.1.desc).map (fun d => d.parameters.length) = some 4) ∧ y_Mo_keep.2.2.1 ≤ 20 :=
  ⟨(zTb_in 1285 (by decide +kernel) (by decide +kernel)), (zTb_in 1286 (by decide +kernel) (by decide +kernel)), (zTb_in 150 (by decide +kernel) (by decide +kernel)), (zTb_in 1287 (by decide +kernel) (by decide +kernel)), by decide +kernel, by decide +kernel⟩
theorem lv_D_422 : zLv "DebtDoors" 422 y_Mo_keep 4 4 := ⟨⟨(zTb_in 1284 (by decide +kernel) (by decide +kernel)), m_Mo_keep.1, m_Mo_keep.2.1, m_Mo_keep.2.2⟩, _, rfl, rfl⟩
theorem ls_D_417 : zLs "DebtDoors" 417 y_J_bitCount 1 := Or.inl ⟨(zTb_in 1283 (by decide +kernel) (by decide +kernel)), m_J_bitCount⟩
theorem fl_D_425 : zFl "DebtDoors" 425 4 2 := ⟨_, rfl, by decide, (zTb_in 526 (by decide +kernel) (by decide +kernel)), rfl⟩
theorem fp_4_2 : zFp 4 2 0 := ⟨_, rfl, rfl, rfl, by decide⟩
def y_D_month : zMt := (⟨"DebtDoors", "month", "(II)I"⟩, prog_1_method_61_code, 5, some .int)
theorem d_D_month_0 : decode prog_1_method_61_code 0 = .ok (.iload_n 1, 1) := by decide +kernel
theorem d_D_month_1 : decode prog_1_method_61_code 1 = .ok (.iconst 0, 1) := by decide +kernel
theorem d_D_month_2 : decode prog_1_method_61_code 2 = .ok (.ldc_w 412, 3) := by decide +kernel
theorem d_D_month_5 : decode prog_1_method_61_code 5 = .ok (.invokestatic 104, 3) := by decide +kernel
theorem d_D_month_8 : decode prog_1_method_61_code 8 = .ok (.ifCond .eq 13, 3) := by decide +kernel
theorem d_D_month_11 : decode prog_1_method_61_code 11 = .ok (.iload_n 2, 1) := by decide +kernel
theorem d_D_month_12 : decode prog_1_method_61_code 12 = .ok (.iconst 1, 1) := by decide +kernel
theorem d_D_month_13 : decode prog_1_method_61_code 13 = .ok (.bipush 30, 2) := by decide +kernel
theorem d_D_month_15 : decode prog_1_method_61_code 15 = .ok (.invokestatic 104, 3) := by decide +kernel
theorem d_D_month_18 : decode prog_1_method_61_code 18 = .ok (.ifCond .ne 9, 3) := by decide +kernel
theorem d_D_month_21 : decode prog_1_method_61_code 21 = .ok (.aload_n 0, 1) := by decide +kernel
theorem d_D_month_22 : decode prog_1_method_61_code 22 = .ok (.iconst (-1), 1) := by decide +kernel
theorem d_D_month_23 : decode prog_1_method_61_code 23 = .ok (.invokevirtual 108, 3) := by decide +kernel
theorem d_D_month_26 : decode prog_1_method_61_code 26 = .ok (.ireturn, 1) := by decide +kernel
theorem d_D_month_27 : decode prog_1_method_61_code 27 = .ok (.aload_n 0, 1) := by decide +kernel
theorem d_D_month_28 : decode prog_1_method_61_code 28 = .ok (.getfield 12, 3) := by decide +kernel
theorem d_D_month_31 : decode prog_1_method_61_code 31 = .ok (.getfield 112, 3) := by decide +kernel
theorem d_D_month_34 : decode prog_1_method_61_code 34 = .ok (.ifCond .ne 10, 3) := by decide +kernel
theorem d_D_month_37 : decode prog_1_method_61_code 37 = .ok (.aload_n 0, 1) := by decide +kernel
theorem d_D_month_38 : decode prog_1_method_61_code 38 = .ok (.bipush (-3), 2) := by decide +kernel
theorem d_D_month_40 : decode prog_1_method_61_code 40 = .ok (.invokevirtual 108, 3) := by decide +kernel
theorem d_D_month_43 : decode prog_1_method_61_code 43 = .ok (.ireturn, 1) := by decide +kernel
theorem d_D_month_44 : decode prog_1_method_61_code 44 = .ok (.aload_n 0, 1) := by decide +kernel
theorem d_D_month_45 : decode prog_1_method_61_code 45 = .ok (.getfield 27, 3) := by decide +kernel
theorem d_D_month_48 : decode prog_1_method_61_code 48 = .ok (.aload_n 0, 1) := by decide +kernel
theorem d_D_month_49 : decode prog_1_method_61_code 49 = .ok (.getfield 12, 3) := by decide +kernel
theorem d_D_month_52 : decode prog_1_method_61_code 52 = .ok (.getfield 115, 3) := by decide +kernel
theorem d_D_month_55 : decode prog_1_method_61_code 55 = .ok (.invokevirtual 221, 3) := by decide +kernel
theorem d_D_month_58 : decode prog_1_method_61_code 58 = .ok (.aload_n 0, 1) := by decide +kernel
theorem d_D_month_59 : decode prog_1_method_61_code 59 = .ok (.getfield 86, 3) := by decide +kernel
theorem d_D_month_62 : decode prog_1_method_61_code 62 = .ok (.aload_n 0, 1) := by decide +kernel
theorem d_D_month_63 : decode prog_1_method_61_code 63 = .ok (.getfield 12, 3) := by decide +kernel
theorem d_D_month_66 : decode prog_1_method_61_code 66 = .ok (.aload_n 0, 1) := by decide +kernel
theorem d_D_month_67 : decode prog_1_method_61_code 67 = .ok (.getfield 51, 3) := by decide +kernel
theorem d_D_month_70 : decode prog_1_method_61_code 70 = .ok (.iload_n 1, 1) := by decide +kernel
theorem d_D_month_71 : decode prog_1_method_61_code 71 = .ok (.iload_n 2, 1) := by decide +kernel
theorem d_D_month_72 : decode prog_1_method_61_code 72 = .ok (.invokevirtual 413, 3) := by decide +kernel
theorem d_D_month_75 : decode prog_1_method_61_code 75 = .ok (.istore_n 3, 1) := by decide +kernel
theorem d_D_month_76 : decode prog_1_method_61_code 76 = .ok (.iconst 0, 1) := by decide +kernel
theorem d_D_month_77 : decode prog_1_method_61_code 77 = .ok (.istore 4, 2) := by decide +kernel
theorem d_D_month_79 : decode prog_1_method_61_code 79 = .ok (.iload 4, 2) := by decide +kernel
theorem d_D_month_81 : decode prog_1_method_61_code 81 = .ok (.aload_n 0, 1) := by decide +kernel
theorem d_D_month_82 : decode prog_1_method_61_code 82 = .ok (.getfield 12, 3) := by decide +kernel
theorem d_D_month_85 : decode prog_1_method_61_code 85 = .ok (.getfield 112, 3) := by decide +kernel
theorem d_D_month_88 : decode prog_1_method_61_code 88 = .ok (.if_icmp .ge 52, 3) := by decide +kernel
theorem d_D_month_91 : decode prog_1_method_61_code 91 = .ok (.aload_n 0, 1) := by decide +kernel
theorem d_D_month_92 : decode prog_1_method_61_code 92 = .ok (.getfield 86, 3) := by decide +kernel
theorem d_D_month_95 : decode prog_1_method_61_code 95 = .ok (.iload 4, 2) := by decide +kernel
theorem d_D_month_97 : decode prog_1_method_61_code 97 = .ok (.aload_n 0, 1) := by decide +kernel
theorem d_D_month_98 : decode prog_1_method_61_code 98 = .ok (.getfield 12, 3) := by decide +kernel
theorem d_D_month_101 : decode prog_1_method_61_code 101 = .ok (.getfield 115, 3) := by decide +kernel
theorem d_D_month_104 : decode prog_1_method_61_code 104 = .ok (.getfield 118, 3) := by decide +kernel
theorem d_D_month_107 : decode prog_1_method_61_code 107 = .ok (.iload 4, 2) := by decide +kernel
theorem d_D_month_109 : decode prog_1_method_61_code 109 = .ok (.iaload, 1) := by decide +kernel
theorem d_D_month_110 : decode prog_1_method_61_code 110 = .ok (.aload_n 0, 1) := by decide +kernel
theorem d_D_month_111 : decode prog_1_method_61_code 111 = .ok (.getfield 12, 3) := by decide +kernel
theorem d_D_month_114 : decode prog_1_method_61_code 114 = .ok (.getfield 115, 3) := by decide +kernel
theorem d_D_month_117 : decode prog_1_method_61_code 117 = .ok (.iload 4, 2) := by decide +kernel
theorem d_D_month_119 : decode prog_1_method_61_code 119 = .ok (.invokevirtual 391, 3) := by decide +kernel
theorem d_D_month_122 : decode prog_1_method_61_code 122 = .ok (.aload_n 0, 1) := by decide +kernel
theorem d_D_month_123 : decode prog_1_method_61_code 123 = .ok (.iload 4, 2) := by decide +kernel
theorem d_D_month_125 : decode prog_1_method_61_code 125 = .ok (.invokevirtual 292, 3) := by decide +kernel
theorem d_D_month_128 : decode prog_1_method_61_code 128 = .ok (.invokestatic 417, 3) := by decide +kernel
theorem d_D_month_131 : decode prog_1_method_61_code 131 = .ok (.invokevirtual 422, 3) := by decide +kernel
theorem d_D_month_134 : decode prog_1_method_61_code 134 = .ok (.iinc 4 1, 3) := by decide +kernel
theorem d_D_month_137 : decode prog_1_method_61_code 137 = .ok (.goto (-58), 3) := by decide +kernel
theorem d_D_month_140 : decode prog_1_method_61_code 140 = .ok (.aload_n 0, 1) := by decide +kernel
theorem d_D_month_141 : decode prog_1_method_61_code 141 = .ok (.getfield 86, 3) := by decide +kernel
theorem d_D_month_144 : decode prog_1_method_61_code 144 = .ok (.aload_n 0, 1) := by decide +kernel
theorem d_D_month_145 : decode prog_1_method_61_code 145 = .ok (.getfield 12, 3) := by decide +kernel
theorem d_D_month_148 : decode prog_1_method_61_code 148 = .ok (.getfield 112, 3) := by decide +kernel
theorem d_D_month_151 : decode prog_1_method_61_code 151 = .ok (.putfield 425, 3) := by decide +kernel
theorem d_D_month_154 : decode prog_1_method_61_code 154 = .ok (.aload_n 0, 1) := by decide +kernel
theorem d_D_month_155 : decode prog_1_method_61_code 155 = .ok (.getfield 12, 3) := by decide +kernel
theorem d_D_month_158 : decode prog_1_method_61_code 158 = .ok (.getfield 115, 3) := by decide +kernel
theorem d_D_month_161 : decode prog_1_method_61_code 161 = .ok (.aload_n 0, 1) := by decide +kernel
theorem d_D_month_162 : decode prog_1_method_61_code 162 = .ok (.getfield 27, 3) := by decide +kernel
theorem d_D_month_165 : decode prog_1_method_61_code 165 = .ok (.invokevirtual 221, 3) := by decide +kernel
theorem d_D_month_168 : decode prog_1_method_61_code 168 = .ok (.aload_n 0, 1) := by decide +kernel
theorem d_D_month_169 : decode prog_1_method_61_code 169 = .ok (.iload_n 3, 1) := by decide +kernel
theorem d_D_month_170 : decode prog_1_method_61_code 170 = .ok (.invokevirtual 130, 3) := by decide +kernel
theorem d_D_month_173 : decode prog_1_method_61_code 173 = .ok (.ireturn, 1) := by decide +kernel
def w_D_month {d : Nat} (hd : 2 ≤ d) := (show SS ("DebtDoors", prog_1_method_61_code, 5) (some .int) d 0 0 0 0 _ from (sS (p1 := 27) (sIf (pn := 27) (tt := 21) (xC (rOr (mm := 11) (rNot (rNot (rJ1 (tgt := 21) k_eq (rS p_D_between (Nat.le_trans (Nat.le_of_ble_eq_true rfl) hd) ls_D_104 (rAi (rAi (rAi rA0 (rIn 1 d_D_month_0 rfl)) (rI d_D_month_1 rfl)) (rLw kc_D_412 d_D_month_2 rfl)) (by decide) d_D_month_5) d_D_month_8 (by decide)))) (rNot (rJ1 (tgt := 27) k_ne (rS p_D_between (Nat.le_trans (Nat.le_of_ble_eq_true rfl) hd) ls_D_104 (rAi (rAi (rAi rA0 (rIn 2 d_D_month_11 rfl)) (rI d_D_month_12 rfl)) (rB d_D_month_13 rfl)) (by decide) d_D_month_15) d_D_month_18 (by decide))))) (sRi (xV lv_D_108 (xA (rAi (rAr rA0 (rAn 0 d_D_month_21 rfl)) (rI d_D_month_22 rfl))) (by decide) d_D_month_23) d_D_month_26 rfl)) (sS (p1 := 44) (sIf (pn := 44) (tt := 37) (xC (rNot (rJ1 (tgt := 44) k_ne (rF 6 fl_D_112 nk_9_6 (rFr fl_D_12 nk_11_0 (rAn 0 d_D_month_27 rfl) d_D_month_28) d_D_month_31 rfl) d_D_month_34 (by decide)))) (sRi (xV lv_D_108 (xA (rAi (rAr rA0 (rAn 0 d_D_month_37 rfl)) (rB d_D_month_38 rfl))) (by decide) d_D_month_40) d_D_month_43 rfl)) (sS (p1 := 58) (sV (xVv lv_D_221 (xA (rAr (rAr rA0 (rFr fl_D_27 nk_11_3 (rAn 0 d_D_month_44 rfl) d_D_month_45)) (rFr fl_D_115 nk_9_0 (rFr fl_D_12 nk_11_0 (rAn 0 d_D_month_48 rfl) d_D_month_49) d_D_month_52))) (by decide) d_D_month_55)) (sS (p1 := 76) (sIn 3 (xV lv_D_413 (xA (rAi (rAi (rAr (rAr (rAr rA0 (rFr fl_D_86 nk_11_12 (rAn 0 d_D_month_58 rfl) d_D_month_59)) (rFr fl_D_12 nk_11_0 (rAn 0 d_D_month_62 rfl) d_D_month_63)) (rFr fl_D_51 nk_11_7 (rAn 0 d_D_month_66 rfl) d_D_month_67)) (rIn 1 d_D_month_70 rfl)) (rIn 2 d_D_month_71 rfl))) (by decide) d_D_month_72) d_D_month_75 rfl (by decide)) (sS (p1 := 140) (sS (p1 := 79) (sI (xE (rI d_D_month_76 rfl)) d_D_month_77 (by decide)) (sLp (ps := 134) (tt := 91) (pn := 140) (p1 := 0) (p2 := 0) (xC (rNot (rJ2 (tgt := 140) j_ge (rIl d_D_month_79) (rF 6 fl_D_112 nk_9_6 (rFr fl_D_12 nk_11_0 (rAn 0 d_D_month_81 rfl) d_D_month_82) d_D_month_85 rfl) d_D_month_88 (by decide)))) (sV (xVv lv_D_422 (xAi (xA (rAi (rAi (rAi (rAr rA0 (rFr fl_D_86 nk_11_12 (rAn 0 d_D_month_91 rfl) d_D_month_92)) (rIl d_D_month_95)) (rIa (rFr fl_D_118 nk_1_0 (rFr fl_D_115 nk_9_0 (rFr fl_D_12 nk_11_0 (rAn 0 d_D_month_97 rfl) d_D_month_98) d_D_month_101) d_D_month_104) (rIl d_D_month_107) d_D_month_109)) (rV p_Le_balanceOf (Nat.le_trans (Nat.le_of_ble_eq_true rfl) hd) lv_D_391 (rAi (rAr rA0 (rFr fl_D_115 nk_9_0 (rFr fl_D_12 nk_11_0 (rAn 0 d_D_month_110 rfl) d_D_month_111) d_D_month_114)) (rIl d_D_month_117)) (by decide) d_D_month_119))) (xS ls_D_417 (xAi (xA rA0) (xV lv_D_292 (xA (rAi (rAr rA0 (rAn 0 d_D_month_122 rfl)) (rIl d_D_month_123))) (by decide) d_D_month_125)) (by decide) d_D_month_128)) (by decide) d_D_month_131)) (sGo (pn := 79) (sInc d_D_month_134 (by decide)) d_D_month_137 (by decide)))) (sS (p1 := 154) (sP 2 fl_D_425 fp_4_2 nk_4_2 (rFr fl_D_86 nk_11_12 (rAn 0 d_D_month_140 rfl) d_D_month_141) (xE (rF 6 fl_D_112 nk_9_6 (rFr fl_D_12 nk_11_0 (rAn 0 d_D_month_144 rfl) d_D_month_145) d_D_month_148 rfl)) d_D_month_151 rfl) (sS (p1 := 168) (sV (xVv lv_D_221 (xA (rAr (rAr rA0 (rFr fl_D_115 nk_9_0 (rFr fl_D_12 nk_11_0 (rAn 0 d_D_month_154 rfl) d_D_month_155) d_D_month_158)) (rFr fl_D_27 nk_11_3 (rAn 0 d_D_month_161 rfl) d_D_month_162))) (by decide) d_D_month_165)) (sRi (xV lv_D_130 (xA (rAi (rAr rA0 (rAn 0 d_D_month_168 rfl)) (rIn 3 d_D_month_169 rfl))) (by decide) d_D_month_170) d_D_month_173 rfl)))))))))
theorem dm_w {d : Nat} {μ : zMem} {Z : Zt} {F : Option (List Cls)} {A : Lg} {w : Int → Int} {m s : Int} {K : zRo} (hd : 2 ≤ d) (h : MTx μ Z F A w) (hs : μ 355 60 = s) (h1 : 0 ≤ s ∧ s ≤ 1000002) (hm : 1 ≤ m) (hk : ∀ μ', MTx μ' Z F A w → μ' 355 60 = drS s → (∀ j : Int, j ≠ 60 → μ' 355 j = μ 355 j) → zfc [355] μ μ' → K (some (vi (drS s % m))) μ') : zCw d y_M_draws [vr 355, vi m] μ K := by
  refine zCw.use (q_M_draws (d := 1) (by decide) hs h1 hm) hd (fun q μ' e => ?_)
  obtain ⟨rfl, rfl⟩ := e
  exact hk _ (h.k (zm_off _ (by decide))) zm_s (fun j hj => zm_o (by omega)) (zfc.rf.zm (by decide))
theorem lst12 {s n a b c e k l : Int} {x6 x7 x8 x9 x10 x11 : zV} (h1 : a = b) (h2 : c = e) (h3 : k = l) : [vr 355, vi s, vi n, vi a, vi c, vi k, x6, x7, x8, x9, x10, x11] = [vr 355, vi s, vi n, vi b, vi e, vi l, x6, x7, x8, x9, x10, x11] := by rw [h1, h2, h3]
theorem lendA_i {Z : Zt} {A : Lg} {g t m : Int} (hg : (0 ≤ g ∧ g < Z.1) ∧ 0 ≤ t ∧ t < Z.1) (hm : 1 ≤ m ∧ m ≤ 9999) : 0 ≤ lendA Z A g t m ↔ (g ≠ t ∧ m ≤ puA A g ∧ puA A t + m ≤ 9999) ∧ (A.2.1.length : Int) < 16 := by
  unfold lendA lendC zit
  repeat' split
  all_goals omega
theorem payA_i {Z : Zt} {A : Lg} {a b : Int} (hZ : okZ Z) (hA : okA A) (hg : (0 ≤ a ∧ a < Z.1) ∧ 0 ≤ b ∧ b < Z.1) : (0 ≤ payA Z A a b 9999 ↔ 0 < zit (a = b) 0 (min (min 1000000000 (owL a b A.2.1)) (min (puA A a) (9999 - puA A b)))) ∧ (0 ≤ payA Z A a b 9999 → payA Z A a b 9999 = zit (a = b) 0 (min (min 1000000000 (owL a b A.2.1)) (min (puA A a) (9999 - puA A b)))) := by
  have h1 := hA.1 a (by omega) (by have := hZ.1; omega)
  have h2 := hA.1 b (by omega) (by have := hZ.1; omega)
  have h3 := owA (a := a) (b := b) hA
  unfold puA at *
  unfold payA payC muchC zit
  unfold puA
  repeat' split
  all_goals omega
theorem q_M_month {d : Nat} (hd : 53 ≤ d) {μ : zMem} {Z : Zt} {F : Option (List Cls)} {A : Lg} {w : Int → Int} {s m : Int} {n : Nat} (h : MTx μ Z F A w) (hz : 1 ≤ Z.1) (hs : 0 ≤ s ∧ s ≤ 1000000) (hm : m = (n : Int)) (hn : 1 ≤ n ∧ n ≤ 30) : zSp d 0 0 y_M_month zT0 [vr 355, vi s, vi m] μ zT0 (fun q μ' => q = some (vi (mnN Z F w A s n).1.2.2) ∧ MTx μ' Z F A w ∧ (∀ i : Int, 73 ≤ i → μ' 357 i = μ 357 i) ∧ (μ' 355 0 = 0 ∧ μ' 355 59 = Z.1 ∧ ∀ j : Int, kfM j → j ≠ 0 → j ≠ 59 → μ' 355 j = μ 355 j) ∧ (∀ p : Int, 0 ≤ p → p < Z.1 → μ' 384 p = puA (mnN Z F w A s n).1.1 p ∧ μ' 385 p = blL p (mnN Z F w A s n).1.1.2.1 ∧ μ' 386 p = onN (doA Z F (mnN Z F w A s n).1.1 w p) 16) ∧ zfc [355, 357, 360, 367, 384, 385, 386] μ μ') := by
  subst hm
  have hz7 := h.1.1.2
  have hok := fun j => mnN_ok (F := F) (w := w) (s := s) h.1 h.2.1 (by omega) j
  obtain ⟨n1, n2, n3, n4, n5, n6, n7⟩ := h.n
  refine zSp.ss [vr 355, vi s, vi n, vx 0, vx 0, vx 0, vx 0, vx 0, vx 0, vx 0, vx 0, vx 0] rfl (w_M_month (Nat.le_trans (by decide) hd)) rfl rfl ?_
  (try simp only [zit_e, Bool.and_eq_true, Bool.or_eq_true, Bool.not_eq_true', Bool.and_eq_false_iff, Bool.or_eq_false_iff, Bool.not_eq_false', zbe, zdt, zdf, zb2_p, zbp_0, zbp_1, zbp_inj, zbp_01, Bool.true_eq_false, Bool.false_eq_true, true_and, and_true, Decidable.not_not, Classical.not_not, implies_true, List.nil_append, List.cons_append, List.append_assoc, Option.some.injEq, Sum.inl.injEq, zSw_c, zSw_n]); (try simp only [zit_e, Bool.and_eq_true, Bool.or_eq_true, Bool.not_eq_true', Bool.and_eq_false_iff, Bool.or_eq_false_iff, Bool.not_eq_false', zbe, zdt, zdf, zb2_p, zbp_0, zbp_1, zbp_inj, zbp_01, Bool.true_eq_false, Bool.false_eq_true, true_and, and_true, Decidable.not_not, Classical.not_not, implies_true, List.nil_append, List.cons_append, List.append_assoc, Option.some.injEq, Sum.inl.injEq, zSw_c, zSw_n, zc_355, f_M_lies, g_M_lies, f_M_people, g_M_people]); (try simp only [zi_cs, zi_c0, zii_cs, zii_c0, zl_cs, zl_c0, zll_cs, zll_c0, zr_cs, zr_c0, zrr_cs, zrr_c0, zxs_cs, zxs_c0, zxx_cs, zxx_c0, zfree_c0, zfree_c1, zfree_cs, zfree_cz, zlong_i, zlong_r, zlong_x, zset_0, zset_s, true_and, and_true, Option.some.injEq, Sum.inl.injEq, Sum.inr.injEq, zb2_p, zbp_0, zbp_1, zbp_inj, zbp_01, Nat.zero_add, Nat.reduceAdd, implies_true, List.nil_append, List.cons_append, List.append_assoc, Int.not_lt, Int.not_le, Decidable.not_not, Int.zero_add, Int.reduceLE, Int.reduceLT, Int.reduceEq, Int.reduceNe, Int.reduceAdd, Int.reduceSub, Int.reduceMul, Int.reduceNeg, Int.reduceToNat, Nat.reduceMul, Nat.reduceLT, Nat.reduceEqDiff, and_self, ite_true, ite_false, zx1, zx2, zRecv, List.length_cons, List.length_nil, ne_eq, not_true_eq_false, not_false_eq_true, true_or, or_true, or_false, false_or, and_false, false_and, zf01, zf10, reduceCtorEq, zSw_c, zSw_n, zm_r, zit_T, zit_F, false_implies, true_implies, zc_355, f_M_lies, g_M_lies, f_M_people, g_M_people])
  rw [n2]
  refine zif (fun c => by omega) (fun _ => ?_)
  refine zif (fun c => by omega) (fun _ => ?_)
  have hbk : (tL 7 (μ 357), dbM (fun _ => μ 357), μ 357 72) = A := h.2.2.2.1.1
  have h0M : MTx (zm (zm μ 355 60 s) 355 59 Z.1) Z F A w := h.k (by rw [zm_off _ (by decide), zm_off _ (by decide)])
  refine zCw.use (q_M_laysAside (d := 1) (k := 9) (by decide) (by decide)) (by omega) (fun q μ0 e => ?_)
  obtain ⟨rfl, l1, l2⟩ := e
  refine ⟨rfl, ?_⟩
  have hM0 := h0M.k (μ' := μ0) (l2 357 (by decide))
  have ha0 : ∀ y : Int, 0 ≤ y → y < 73 → μ0 360 (657 + y) = μ 357 y := fun y y0 y1 => by
    rw [l1, zit_t (by omega), zm_off _ (by decide), zm_off _ (by decide), show 657 + y - 73 * 9 = y by omega]
  have k60 : μ0 355 60 = s := by rw [l2 355 (by decide), zm_o (by omega), zm_s]
  have k59 : μ0 355 59 = Z.1 := by rw [l2 355 (by decide), zm_s]
  have kk0 : ∀ j : Int, kfM j → j ≠ 59 → μ0 355 j = μ 355 j := fun j hj h9 => by
    unfold kfM at hj
    rw [l2 355 (by decide), zm_o (by omega), zm_o (by omega)]
  have kf0 : zfc [355, 360] μ μ0 := ((((zfc.rf (cs := [355])).zm (by decide)).zm (by decide)).tr l2).mo (by simp)
  have k73 : ∀ i : Int, 73 ≤ i → μ0 357 i = μ 357 i := fun i hi => by rw [kf0 357 (by decide)]
  clear l1 l2 h0M
  refine zLoop.up n (fun j ρ μ1 => ∃ x6 x7 x8 x9 x10 x11 : zV, ρ = [vr 355, vi s, vi n, vi (mnN Z F w A s j).1.2.2, vi (if (mnN Z F w A s j).2 = true then 1 else 0), vi j, x6, x7, x8, x9, x10, x11] ∧ MTx μ1 Z F (mnN Z F w A s j).1.1 w ∧ μ1 355 60 = (mnN Z F w A s j).1.2.1 ∧ μ1 355 59 = Z.1 ∧ (∀ i : Int, 73 ≤ i → μ1 357 i = μ 357 i) ∧ (∀ j : Int, kfM j → j ≠ 59 → μ1 355 j = μ 355 j) ∧ (∀ y : Int, 0 ≤ y → y < 73 → μ1 360 (657 + y) = μ 357 y) ∧ zfc [355, 357, 360, 367] μ μ1) ⟨_, _, _, _, _, _, rfl, hM0, k60, k59, k73, kk0, ha0, kf0.mo (by simp)⟩ ?_
  clear hM0 k60 k59 k73 kk0 ha0 kf0
  rintro j ρ μ1 hj ⟨x6, x7, x8, x9, x10, x11, rfl, hM, e60, e59, e73, ek, ea, hf⟩
  (try simp only [zit_e, Bool.and_eq_true, Bool.or_eq_true, Bool.not_eq_true', Bool.and_eq_false_iff, Bool.or_eq_false_iff, Bool.not_eq_false', zbe, zdt, zdf, zb2_p, zbp_0, zbp_1, zbp_inj, zbp_01, Bool.true_eq_false, Bool.false_eq_true, true_and, and_true, Decidable.not_not, Classical.not_not, implies_true, List.nil_append, List.cons_append, List.append_assoc, Option.some.injEq, Sum.inl.injEq, zSw_c, zSw_n]); (try simp only [zit_e, Bool.and_eq_true, Bool.or_eq_true, Bool.not_eq_true', Bool.and_eq_false_iff, Bool.or_eq_false_iff, Bool.not_eq_false', zbe, zdt, zdf, zb2_p, zbp_0, zbp_1, zbp_inj, zbp_01, Bool.true_eq_false, Bool.false_eq_true, true_and, and_true, Decidable.not_not, Classical.not_not, implies_true, List.nil_append, List.cons_append, List.append_assoc, Option.some.injEq, Sum.inl.injEq, zSw_c, zSw_n, zc_355, f_M_canLend, g_M_canLend, f_M_debts, g_M_debts, f_M_canRepay, g_M_canRepay]); (try simp only [zi_cs, zi_c0, zii_cs, zii_c0, zl_cs, zl_c0, zll_cs, zll_c0, zr_cs, zr_c0, zrr_cs, zrr_c0, zxs_cs, zxs_c0, zxx_cs, zxx_c0, zfree_c0, zfree_c1, zfree_cs, zfree_cz, zlong_i, zlong_r, zlong_x, zset_0, zset_s, true_and, and_true, Option.some.injEq, Sum.inl.injEq, Sum.inr.injEq, zb2_p, zbp_0, zbp_1, zbp_inj, zbp_01, Nat.zero_add, Nat.reduceAdd, implies_true, List.nil_append, List.cons_append, List.append_assoc, Int.not_lt, Int.not_le, Decidable.not_not, Int.zero_add, Int.reduceLE, Int.reduceLT, Int.reduceEq, Int.reduceNe, Int.reduceAdd, Int.reduceSub, Int.reduceMul, Int.reduceNeg, Int.reduceToNat, Nat.reduceMul, Nat.reduceLT, Nat.reduceEqDiff, and_self, ite_true, ite_false, zx1, zx2, zRecv, List.length_cons, List.length_nil, ne_eq, not_true_eq_false, not_false_eq_true, true_or, or_true, or_false, false_or, and_false, false_and, zf01, zf10, reduceCtorEq, zSw_c, zSw_n, zm_r, zit_T, zit_F, false_implies, true_implies, zc_355, f_M_canLend, g_M_canLend, f_M_debts, g_M_debts, f_M_canRepay, g_M_canRepay])
  obtain ⟨k1, k2, k3, k4⟩ := hok j
  rw [e59]
  have hnx : (mnN Z F w A s j).2 = true → mnN Z F w A s (j + 1) = ((mnW Z F w (mnB Z (mnN Z F w A s j).1.1 (mnN Z F w A s j).1.2.1), drK (mnN Z F w A s j).1.2.1 5, (mnN Z F w A s j).1.2.2 + mnL Z (mnN Z F w A s j).1.1 (mnN Z F w A s j).1.2.1), decide ((mnB Z (mnN Z F w A s j).1.1 (mnN Z F w A s j).1.2.1).2.2 < 999)) := fun eg => by
    rw [mnN, if_pos eg]
  refine zif (fun c => ?_) (fun c => ?_)
  · have eg : (mnN Z F w A s j).2 = true := Classical.byContradiction (fun q => c.2 (zit_f q))
    replace hnx := hnx eg
    have k5 := hok (j + 1)
    have hBok := mnB_ok (s := (mnN Z F w A s j).1.2.1) h.1 k1
    generalize hX : mnN Z F w A s j = X at *
    generalize hA0 : X.1.1 = A0 at *
    generalize hs0 : X.1.2.1 = s0 at *
    have z3 : 0 ≤ drS (drS (drS s0)) % 50 ∧ drS (drS (drS s0)) % 50 < 50 := dr_b (by decide)
    have zb : ∀ x, 0 ≤ drS x % Z.1 ∧ drS x % Z.1 < Z.1 := fun x => dr_b hz
    refine dm_w (by omega) hM e60 k2 hz (fun μ2 hM2 s2 f2 g2 => ⟨_, rfl, ?_⟩)
    rw [f2 59 (by decide), e59]
    refine dm_w (by omega) hM2 s2 drS_in hz (fun μ3 hM3 s3 f3 g3 => ⟨_, rfl, ?_⟩)
    refine dm_w (by omega) hM3 s3 drS_in (by decide) (fun μ4 hM4 s4 f4 g4 => ⟨_, rfl, by ((try simp only [zI_e]); (first | done | omega | skip)), ?_⟩)
    have f59 : μ4 355 59 = Z.1 := by rw [f4 59 (by decide), f3 59 (by decide), f2 59 (by decide), e59]
    have fk : ∀ j : Int, kfM j → j ≠ 59 → μ4 355 j = μ 355 j := fun j hj h9 => by
      have h60 : j ≠ 60 := by unfold kfM at hj; omega
      rw [f4 j h60, f3 j h60, f2 j h60, ek j hj h9]
    have g40 : zfc [355] μ1 μ4 := ((g2.tr g3).tr g4).mo (by simp)
    have f73 : ∀ i : Int, 73 ≤ i → μ4 357 i = μ 357 i := fun i hi => by rw [g40 357 (by decide), e73 i hi]
    have fa : ∀ y : Int, 0 ≤ y → y < 73 → μ4 360 (657 + y) = μ 357 y := fun y y0 y1 => by rw [g40 360 (by decide), ea y y0 y1]
    have ff : zfc [355, 357, 360, 367] μ μ4 := (hf.tr g40).mo (by simp)
    clear hM2 hM3 s2 s3 f2 f3 f4 g2 g3 g4 g40 hM e60 e59 e73 ek ea hf
    have hp4 := hM4.p
    have hn4 := hM4.n
    generalize hg : drS s0 % Z.1 = g at *
    generalize ht : drS (drS s0) % Z.1 = tt at *
    generalize hmm : drS (drS (drS s0)) % 50 + 1 = mm at *
    have zg : (0 ≤ g ∧ g < Z.1) ∧ 0 ≤ tt ∧ tt < Z.1 := ⟨by rw [← hg]; exact zb s0, by rw [← ht]; exact zb _⟩
    have hli := lendA_i (A := A0) zg (m := mm) (by omega)
    have hmA : mnB Z A0 s0 = mnP Z (mnA Z A0 g tt mm) (drK s0 4 % Z.1) (drK s0 5 % Z.1) := by
      rw [← hg, ← ht, ← hmm]
      rfl
    have hmL : mnL Z A0 s0 = max 0 (lendA Z A0 g tt mm) := by
      rw [← hg, ← ht, ← hmm]
      rfl
    rw [hp4.1 g (by omega) (by omega), hp4.1 tt (by omega) (by omega), hn4.2.2.2.2.2.1]
    refine ⟨⟨by omega, by omega, by have := k1.1 tt (by omega) (by omega); unfold puA; omega, by omega, by omega⟩, ?_⟩
    refine zif (fun c1 => ?_) (fun c1 => ?_)
    · have hc := hli.mpr c1
      refine zCw.use (q_R_lends (d := 3) (by decide) hM4 hc) (by omega) (fun q μ5 e => ?_)
      obtain ⟨rfl, hM5, q73, q7⟩ := e
      have eL0 := (lendC_0 hc).2.2.2.2.2
      have eL0 : lendA Z A0 g tt mm = mm := eL0
      have eL : mnL Z A0 s0 = mm := by omega
      refine ⟨rfl, by ((try simp only [zI_e]); (first | done | omega | skip)), ?_⟩
      have hM5 : MTx μ5 Z F (mnA Z A0 g tt mm) w := by
        unfold mnA
        rw [if_pos hc]
        exact hM5
      replace s4 : μ5 355 60 = drS (drS (drS s0)) := by rw [q7 355 (by decide)]; exact s4
      replace f59 : μ5 355 59 = Z.1 := by rw [q7 355 (by decide)]; exact f59
      replace fk : ∀ j : Int, kfM j → j ≠ 59 → μ5 355 j = μ 355 j := fun j hj h9 => by rw [q7 355 (by decide)]; exact fk j hj h9
      replace f73 : ∀ i : Int, 73 ≤ i → μ5 357 i = μ 357 i := fun i hi => by rw [q73 i hi]; exact f73 i hi
      replace fa : ∀ y : Int, 0 ≤ y → y < 73 → μ5 360 (657 + y) = μ 357 y := fun y y0 y1 => by rw [q7 360 (by decide)]; exact fa y y0 y1
      replace ff : zfc [355, 357, 360, 367] μ μ5 := (ff.tr q7).mo (by simp)
      clear q7 q73 hM4 hp4 hn4 eL0 hli hmL c1
      rw [f59]
      refine dm_w (by omega) hM5 s4 drS_in hz (fun μ6 hM6 s6 f6 g6 => ⟨_, rfl, ?_⟩)
      rw [f6 59 (by decide), f59]
      refine dm_w (by omega) hM6 s6 drS_in hz (fun μ7 hM7 s7 f7 g7 => ⟨_, rfl, ?_⟩)
      have h59 : μ7 355 59 = Z.1 := by rw [f7 59 (by decide), f6 59 (by decide), f59]
      have hk7 : ∀ j : Int, kfM j → j ≠ 59 → μ7 355 j = μ 355 j := fun j hj h9 => by
        have h60 : j ≠ 60 := by unfold kfM at hj; omega
        rw [f7 j h60, f6 j h60, fk j hj h9]
      have g70 : zfc [355] μ5 μ7 := (g6.tr g7).mo (by simp)
      have h73 : ∀ i : Int, 73 ≤ i → μ7 357 i = μ 357 i := fun i hi => by rw [g70 357 (by decide), f73 i hi]
      have ha7 : ∀ y : Int, 0 ≤ y → y < 73 → μ7 360 (657 + y) = μ 357 y := fun y y0 y1 => by rw [g70 360 (by decide), fa y y0 y1]
      have hf7 : zfc [355, 357, 360, 367] μ μ7 := (ff.tr g70).mo (by simp)
      clear hM5 hM6 s4 s6 f6 f7 g6 g7 g70 f59 fk f73 fa ff
      have hmB : mnB Z A0 s0 = mnP Z (mnA Z A0 g tt mm) (drK s0 4 % Z.1) (drK s0 5 % Z.1) := hmA
      have e4 : drS (drS (drS (drS s0))) % Z.1 = drK s0 4 % Z.1 := rfl
      have e5 : drS (drS (drS (drS (drS s0)))) % Z.1 = drK s0 5 % Z.1 := rfl
      have z4 := zb (drS (drS (drS s0)))
      have z5 := zb (drS (drS (drS (drS s0))))
      rw [e4] at z4 ⊢
      rw [e5] at z5 ⊢
      generalize drK s0 4 % Z.1 = a at *
      generalize drK s0 5 % Z.1 = b at *
      have hAok := mnA_ok (g := g) (t := tt) (m := mm) h.1 k1
      have hpi := payA_i h.1 hAok (a := a) (b := b) ⟨z4, z5⟩
      have hp7 := hM7.p
      have hn7 := hM7.n
      generalize mnA Z A0 g tt mm = A5 at *
      rw [hp7.1 a (by omega) (by omega), hp7.1 b (by omega) (by omega), hn7.2.2.1]
      refine ⟨⟨hM7.d.2.2.2.1, ⟨by omega, by omega⟩, ⟨by omega, by omega⟩, by have := hAok.1 b (by omega) (by omega); unfold puA; omega⟩, ?_⟩
      have fin : ∀ {μ8 : zMem} {x6 x7 x8 x9 x10 x11 : zV} {l : Int} {inst : Decidable (μ8 357 72 < 999)}, l = X.1.2.2 + mnL Z A0 s0 → MTx μ8 Z F (mnB Z A0 s0) w → μ8 355 60 = drK s0 5 → μ8 355 59 = Z.1 → (∀ i : Int, 73 ≤ i → μ8 357 i = μ 357 i) → (∀ j : Int, kfM j → j ≠ 59 → μ8 355 j = μ 355 j) → (∀ y : Int, 0 ≤ y → y < 73 → μ8 360 (657 + y) = μ 357 y) → zfc [355, 357, 360, 367] μ μ8 → @ite Prop (μ8 357 72 < 999) inst (zCw d y_M_waits [vr 355] μ8 (fun q μ2 => ∃ n_1, q = some (vi n_1) ∧ zI ((j : Int) + 1) ∧ ∃ m', m' < n - j ∧ ∃ j', m' = n - j' ∧ j' ≤ n ∧ ∃ y6 y7 y8 y9 y10 y11 : zV, [vr 355, vi s, vi n, vi l, vi (zbp (μ8 357 72 < 999)), vi ((j : Int) + 1), x6, x7, x8, x9, x10, x11] = [vr 355, vi s, vi n, vi (mnN Z F w A s j').1.2.2, vi (zit ((mnN Z F w A s j').2 = true) 1 0), vi j', y6, y7, y8, y9, y10, y11] ∧ MTx μ2 Z F (mnN Z F w A s j').1.1 w ∧ μ2 355 60 = (mnN Z F w A s j').1.2.1 ∧ μ2 355 59 = Z.1 ∧ (∀ i : Int, 73 ≤ i → μ2 357 i = μ 357 i) ∧ (∀ j : Int, kfM j → ¬ j = 59 → μ2 355 j = μ 355 j) ∧ (∀ y : Int, 0 ≤ y → y < 73 → μ2 360 (657 + y) = μ 357 y) ∧ zfc [355, 357, 360, 367] μ μ2)) (zI ((j : Int) + 1) ∧ ∃ m', m' < n - j ∧ ∃ j', m' = n - j' ∧ j' ≤ n ∧ ∃ y6 y7 y8 y9 y10 y11 : zV, [vr 355, vi s, vi n, vi l, vi (zbp (μ8 357 72 < 999)), vi ((j : Int) + 1), x6, x7, x8, x9, x10, x11] = [vr 355, vi s, vi n, vi (mnN Z F w A s j').1.2.2, vi (zit ((mnN Z F w A s j').2 = true) 1 0), vi j', y6, y7, y8, y9, y10, y11] ∧ MTx μ8 Z F (mnN Z F w A s j').1.1 w ∧ μ8 355 60 = (mnN Z F w A s j').1.2.1 ∧ μ8 355 59 = Z.1 ∧ (∀ i : Int, 73 ≤ i → μ8 357 i = μ 357 i) ∧ (∀ j : Int, kfM j → ¬ j = 59 → μ8 355 j = μ 355 j) ∧ (∀ y : Int, 0 ≤ y → y < 73 → μ8 360 (657 + y) = μ 357 y) ∧ zfc [355, 357, 360, 367] μ μ8) := by
        intro μ8 x6 x7 x8 x9 x10 x11 l inst hl hM8 q60 q59 q73 qk qa qf
        have q72 := hM8.n.2.2.2.1
        refine zif (fun cd => ?_) (fun cd => ?_)
        · have cd2 : (mnB Z A0 s0).2.2 < 999 := by omega
          refine zCw.use (q_M_waits (d := 50) (by decide) hM8 cd2) (by omega) (fun q μ9 e => ?_)
          obtain ⟨rfl, hM9, w1, w2, w3⟩ := e
          have eW : (grw Z F w (mnB Z A0 s0) (mnB Z A0 s0).2.1.length).1 = mnW Z F w (mnB Z A0 s0) := by
            unfold mnW
            rw [if_pos cd2]
          refine ⟨_, rfl, by ((try simp only [zI_e]); (first | done | omega | skip)), n - (j + 1), by omega, j + 1, rfl, by omega, _, _, _, _, _, _, lst12 (by rw [hnx]; exact hl) (by rw [hnx, zbt cd, zit_t (decide_eq_true cd2)]) rfl, by rw [hnx, ← eW]; exact hM9, by rw [hnx, w2 60 (by decide) (by decide) (by decide) (by decide)]; exact q60, by rw [w2 59 (by decide) (by decide) (by decide) (by decide)]; exact q59, fun i hi => by rw [w1 i hi, q73 i hi], fun j hj h9 => ?_, fun y y0 y1 => by rw [w3 360 (by decide), qa y y0 y1], (qf.tr w3).mo (by simp)⟩
          have := hj
          unfold kfM at this
          rw [w2 j (by omega) (by omega) (by omega) (by omega), qk j hj h9]
        · have cd2 : ¬ (mnB Z A0 s0).2.2 < 999 := by omega
          have eW : mnB Z A0 s0 = mnW Z F w (mnB Z A0 s0) := by
            unfold mnW
            rw [if_neg cd2]
          exact ⟨by ((try simp only [zI_e]); (first | done | omega | skip)), n - (j + 1), by omega, j + 1, rfl, by omega, _, _, _, _, _, _, lst12 (by rw [hnx]; exact hl) (by rw [hnx, zbf cd, zit_f (fun q => cd2 (of_decide_eq_true q))]) rfl, by rw [hnx]; show MTx μ8 Z F (mnW Z F w (mnB Z A0 s0)) w; rw [← eW]; exact hM8, by rw [hnx]; exact q60, q59, q73, qk, qa, qf⟩
      refine zif (fun c2 => ?_) (fun c2 => ?_)
      · have hc2 := hpi.1.mpr c2
        refine zCw.use (q_R_repays (d := 4) (by decide) hM7 hc2 (hpi.2 hc2)) (by omega) (fun q μ8 e => ?_)
        obtain ⟨rfl, hM8, q73, q7⟩ := e
        rw [← hpi.2 hc2] at hM8 ⊢
        refine ⟨rfl, fin (by omega) (by rw [hmB]; unfold mnP; rw [if_pos hc2]; exact hM8) (by rw [q7 355 (by decide)]; exact s7) (by rw [q7 355 (by decide)]; exact h59) (fun i hi => by rw [q73 i hi]; exact h73 i hi) (fun j hj h9 => by rw [q7 355 (by decide)]; exact hk7 j hj h9) (fun y y0 y1 => by rw [q7 360 (by decide)]; exact ha7 y y0 y1) ((hf7.tr q7).mo (by simp))⟩
      · have hc2 : ¬ 0 ≤ payA Z A5 a b 9999 := fun q => c2 (hpi.1.mp q)
        exact fin (by omega) (by rw [hmB]; unfold mnP; rw [if_neg hc2]; exact hM7) s7 h59 h73 hk7 ha7 hf7
    · have hc : ¬ 0 ≤ lendA Z A0 g tt mm := fun q => c1 (hli.mp q)
      have eL : mnL Z A0 s0 = 0 := by omega
      have hM5 : MTx μ4 Z F (mnA Z A0 g tt mm) w := by
        unfold mnA
        rw [if_neg hc]
        exact hM4
      clear hM4 hp4 hn4 hli hmL c1
      generalize μ4 = μ5 at *
      rw [f59]
      refine dm_w (by omega) hM5 s4 drS_in hz (fun μ6 hM6 s6 f6 g6 => ⟨_, rfl, ?_⟩)
      rw [f6 59 (by decide), f59]
      refine dm_w (by omega) hM6 s6 drS_in hz (fun μ7 hM7 s7 f7 g7 => ⟨_, rfl, ?_⟩)
      have h59 : μ7 355 59 = Z.1 := by rw [f7 59 (by decide), f6 59 (by decide), f59]
      have hk7 : ∀ j : Int, kfM j → j ≠ 59 → μ7 355 j = μ 355 j := fun j hj h9 => by
        have h60 : j ≠ 60 := by unfold kfM at hj; omega
        rw [f7 j h60, f6 j h60, fk j hj h9]
      have g70 : zfc [355] μ5 μ7 := (g6.tr g7).mo (by simp)
      have h73 : ∀ i : Int, 73 ≤ i → μ7 357 i = μ 357 i := fun i hi => by rw [g70 357 (by decide), f73 i hi]
      have ha7 : ∀ y : Int, 0 ≤ y → y < 73 → μ7 360 (657 + y) = μ 357 y := fun y y0 y1 => by rw [g70 360 (by decide), fa y y0 y1]
      have hf7 : zfc [355, 357, 360, 367] μ μ7 := (ff.tr g70).mo (by simp)
      clear hM5 hM6 s4 s6 f6 f7 g6 g7 g70 f59 fk f73 fa ff
      have hmB : mnB Z A0 s0 = mnP Z (mnA Z A0 g tt mm) (drK s0 4 % Z.1) (drK s0 5 % Z.1) := hmA
      have e4 : drS (drS (drS (drS s0))) % Z.1 = drK s0 4 % Z.1 := rfl
      have e5 : drS (drS (drS (drS (drS s0)))) % Z.1 = drK s0 5 % Z.1 := rfl
      have z4 := zb (drS (drS (drS s0)))
      have z5 := zb (drS (drS (drS (drS s0))))
      rw [e4] at z4 ⊢
      rw [e5] at z5 ⊢
      generalize drK s0 4 % Z.1 = a at *
      generalize drK s0 5 % Z.1 = b at *
      have hAok := mnA_ok (g := g) (t := tt) (m := mm) h.1 k1
      have hpi := payA_i h.1 hAok (a := a) (b := b) ⟨z4, z5⟩
      have hp7 := hM7.p
      have hn7 := hM7.n
      generalize mnA Z A0 g tt mm = A5 at *
      rw [hp7.1 a (by omega) (by omega), hp7.1 b (by omega) (by omega), hn7.2.2.1]
      refine ⟨⟨hM7.d.2.2.2.1, ⟨by omega, by omega⟩, ⟨by omega, by omega⟩, by have := hAok.1 b (by omega) (by omega); unfold puA; omega⟩, ?_⟩
      have fin : ∀ {μ8 : zMem} {x6 x7 x8 x9 x10 x11 : zV} {l : Int} {inst : Decidable (μ8 357 72 < 999)}, l = X.1.2.2 + mnL Z A0 s0 → MTx μ8 Z F (mnB Z A0 s0) w → μ8 355 60 = drK s0 5 → μ8 355 59 = Z.1 → (∀ i : Int, 73 ≤ i → μ8 357 i = μ 357 i) → (∀ j : Int, kfM j → j ≠ 59 → μ8 355 j = μ 355 j) → (∀ y : Int, 0 ≤ y → y < 73 → μ8 360 (657 + y) = μ 357 y) → zfc [355, 357, 360, 367] μ μ8 → @ite Prop (μ8 357 72 < 999) inst (zCw d y_M_waits [vr 355] μ8 (fun q μ2 => ∃ n_1, q = some (vi n_1) ∧ zI ((j : Int) + 1) ∧ ∃ m', m' < n - j ∧ ∃ j', m' = n - j' ∧ j' ≤ n ∧ ∃ y6 y7 y8 y9 y10 y11 : zV, [vr 355, vi s, vi n, vi l, vi (zbp (μ8 357 72 < 999)), vi ((j : Int) + 1), x6, x7, x8, x9, x10, x11] = [vr 355, vi s, vi n, vi (mnN Z F w A s j').1.2.2, vi (zit ((mnN Z F w A s j').2 = true) 1 0), vi j', y6, y7, y8, y9, y10, y11] ∧ MTx μ2 Z F (mnN Z F w A s j').1.1 w ∧ μ2 355 60 = (mnN Z F w A s j').1.2.1 ∧ μ2 355 59 = Z.1 ∧ (∀ i : Int, 73 ≤ i → μ2 357 i = μ 357 i) ∧ (∀ j : Int, kfM j → ¬ j = 59 → μ2 355 j = μ 355 j) ∧ (∀ y : Int, 0 ≤ y → y < 73 → μ2 360 (657 + y) = μ 357 y) ∧ zfc [355, 357, 360, 367] μ μ2)) (zI ((j : Int) + 1) ∧ ∃ m', m' < n - j ∧ ∃ j', m' = n - j' ∧ j' ≤ n ∧ ∃ y6 y7 y8 y9 y10 y11 : zV, [vr 355, vi s, vi n, vi l, vi (zbp (μ8 357 72 < 999)), vi ((j : Int) + 1), x6, x7, x8, x9, x10, x11] = [vr 355, vi s, vi n, vi (mnN Z F w A s j').1.2.2, vi (zit ((mnN Z F w A s j').2 = true) 1 0), vi j', y6, y7, y8, y9, y10, y11] ∧ MTx μ8 Z F (mnN Z F w A s j').1.1 w ∧ μ8 355 60 = (mnN Z F w A s j').1.2.1 ∧ μ8 355 59 = Z.1 ∧ (∀ i : Int, 73 ≤ i → μ8 357 i = μ 357 i) ∧ (∀ j : Int, kfM j → ¬ j = 59 → μ8 355 j = μ 355 j) ∧ (∀ y : Int, 0 ≤ y → y < 73 → μ8 360 (657 + y) = μ 357 y) ∧ zfc [355, 357, 360, 367] μ μ8) := by
        intro μ8 x6 x7 x8 x9 x10 x11 l inst hl hM8 q60 q59 q73 qk qa qf
        have q72 := hM8.n.2.2.2.1
        refine zif (fun cd => ?_) (fun cd => ?_)
        · have cd2 : (mnB Z A0 s0).2.2 < 999 := by omega
          refine zCw.use (q_M_waits (d := 50) (by decide) hM8 cd2) (by omega) (fun q μ9 e => ?_)
          obtain ⟨rfl, hM9, w1, w2, w3⟩ := e
          have eW : (grw Z F w (mnB Z A0 s0) (mnB Z A0 s0).2.1.length).1 = mnW Z F w (mnB Z A0 s0) := by
            unfold mnW
            rw [if_pos cd2]
          refine ⟨_, rfl, by ((try simp only [zI_e]); (first | done | omega | skip)), n - (j + 1), by omega, j + 1, rfl, by omega, _, _, _, _, _, _, lst12 (by rw [hnx]; exact hl) (by rw [hnx, zbt cd, zit_t (decide_eq_true cd2)]) rfl, by rw [hnx, ← eW]; exact hM9, by rw [hnx, w2 60 (by decide) (by decide) (by decide) (by decide)]; exact q60, by rw [w2 59 (by decide) (by decide) (by decide) (by decide)]; exact q59, fun i hi => by rw [w1 i hi, q73 i hi], fun j hj h9 => ?_, fun y y0 y1 => by rw [w3 360 (by decide), qa y y0 y1], (qf.tr w3).mo (by simp)⟩
          have := hj
          unfold kfM at this
          rw [w2 j (by omega) (by omega) (by omega) (by omega), qk j hj h9]
        · have cd2 : ¬ (mnB Z A0 s0).2.2 < 999 := by omega
          have eW : mnB Z A0 s0 = mnW Z F w (mnB Z A0 s0) := by
            unfold mnW
            rw [if_neg cd2]
          exact ⟨by ((try simp only [zI_e]); (first | done | omega | skip)), n - (j + 1), by omega, j + 1, rfl, by omega, _, _, _, _, _, _, lst12 (by rw [hnx]; exact hl) (by rw [hnx, zbf cd, zit_f (fun q => cd2 (of_decide_eq_true q))]) rfl, by rw [hnx]; show MTx μ8 Z F (mnW Z F w (mnB Z A0 s0)) w; rw [← eW]; exact hM8, by rw [hnx]; exact q60, q59, q73, qk, qa, qf⟩
      refine zif (fun c2 => ?_) (fun c2 => ?_)
      · have hc2 := hpi.1.mpr c2
        refine zCw.use (q_R_repays (d := 4) (by decide) hM7 hc2 (hpi.2 hc2)) (by omega) (fun q μ8 e => ?_)
        obtain ⟨rfl, hM8, q73, q7⟩ := e
        rw [← hpi.2 hc2] at hM8 ⊢
        refine ⟨rfl, fin (by omega) (by rw [hmB]; unfold mnP; rw [if_pos hc2]; exact hM8) (by rw [q7 355 (by decide)]; exact s7) (by rw [q7 355 (by decide)]; exact h59) (fun i hi => by rw [q73 i hi]; exact h73 i hi) (fun j hj h9 => by rw [q7 355 (by decide)]; exact hk7 j hj h9) (fun y y0 y1 => by rw [q7 360 (by decide)]; exact ha7 y y0 y1) ((hf7.tr q7).mo (by simp))⟩
      · have hc2 : ¬ 0 ≤ payA Z A5 a b 9999 := fun q => c2 (hpi.1.mp q)
        exact fin (by omega) (by rw [hmB]; unfold mnP; rw [if_neg hc2]; exact hM7) s7 h59 h73 hk7 ha7 hf7
  · have hfin : mnN Z F w A s n = mnN Z F w A s j := by
      by_cases ej : j = n
      · rw [ej]
      · have eg : ¬ (mnN Z F w A s j).2 = true := fun q => c ⟨by omega, by rw [zit_t q]; decide⟩
        have := mnN_st (Z := Z) (F := F) (w := w) (A := A) (s := s) (j := j) eg (n - j)
        rwa [show j + (n - j) = n by omega] at this
    rw [hfin]
    clear hfin hnx c
    generalize mnN Z F w A s j = X at *
    obtain ⟨nn, hnn⟩ : ∃ nn : Nat, Z.1 = (nn : Int) := ⟨Z.1.toNat, by omega⟩
    have hBd := fun (p : Nat) (hp : p < nn) => bsN_lt (p := fun o => o ≠ (p : Int) ∧ 0 < dnA Z F X.1.1 w o p) Z.1.toNat
    refine zLoop.up nn (fun p ρ ν => ρ = [vr 355, vi s, vi n, vi X.1.2.2, vi (if X.2 = true then 1 else 0), vi p, x6, x7, x8, x9, x10, x11] ∧ MTx ν Z F X.1.1 w ∧ (∀ q : Int, 0 ≤ q → q < p → ν 384 q = puA X.1.1 q ∧ ν 385 q = blL q X.1.1.2.1 ∧ ν 386 q = onN (doA Z F X.1.1 w q) 16) ∧ (∀ j : Int, j ≠ 20 → j ≠ 21 → j ≠ 22 → j ≠ 23 → ν 355 j = μ1 355 j) ∧ zfc [355, 367, 384, 385, 386] μ1 ν) ⟨?_, hM, fun q _ _ => by omega, fun _ _ _ _ _ => rfl, zfc.rf⟩ ?_
    · rw [zit_e]
      rfl
    rintro p ρ ν hp ⟨rfl, hMν, hq, h5, hf5⟩
    (try simp only [zit_e, Bool.and_eq_true, Bool.or_eq_true, Bool.not_eq_true', Bool.and_eq_false_iff, Bool.or_eq_false_iff, Bool.not_eq_false', zbe, zdt, zdf, zb2_p, zbp_0, zbp_1, zbp_inj, zbp_01, Bool.true_eq_false, Bool.false_eq_true, true_and, and_true, Decidable.not_not, Classical.not_not, implies_true, List.nil_append, List.cons_append, List.append_assoc, Option.some.injEq, Sum.inl.injEq, zSw_c, zSw_n]); (try simp only [zit_e, Bool.and_eq_true, Bool.or_eq_true, Bool.not_eq_true', Bool.and_eq_false_iff, Bool.or_eq_false_iff, Bool.not_eq_false', zbe, zdt, zdf, zb2_p, zbp_0, zbp_1, zbp_inj, zbp_01, Bool.true_eq_false, Bool.false_eq_true, true_and, and_true, Decidable.not_not, Classical.not_not, implies_true, List.nil_append, List.cons_append, List.append_assoc, Option.some.injEq, Sum.inl.injEq, zSw_c, zSw_n, zc_355, f_M_balanceOf, g_M_balanceOf]); (try simp only [zi_cs, zi_c0, zii_cs, zii_c0, zl_cs, zl_c0, zll_cs, zll_c0, zr_cs, zr_c0, zrr_cs, zrr_c0, zxs_cs, zxs_c0, zxx_cs, zxx_c0, zfree_c0, zfree_c1, zfree_cs, zfree_cz, zlong_i, zlong_r, zlong_x, zset_0, zset_s, true_and, and_true, Option.some.injEq, Sum.inl.injEq, Sum.inr.injEq, zb2_p, zbp_0, zbp_1, zbp_inj, zbp_01, Nat.zero_add, Nat.reduceAdd, implies_true, List.nil_append, List.cons_append, List.append_assoc, Int.not_lt, Int.not_le, Decidable.not_not, Int.zero_add, Int.reduceLE, Int.reduceLT, Int.reduceEq, Int.reduceNe, Int.reduceAdd, Int.reduceSub, Int.reduceMul, Int.reduceNeg, Int.reduceToNat, Nat.reduceMul, Nat.reduceLT, Nat.reduceEqDiff, and_self, ite_true, ite_false, zx1, zx2, zRecv, List.length_cons, List.length_nil, ne_eq, not_true_eq_false, not_false_eq_true, true_or, or_true, or_false, false_or, and_false, false_and, zf01, zf10, reduceCtorEq, zSw_c, zSw_n, zm_r, zit_T, zit_F, false_implies, true_implies, zc_355, f_M_balanceOf, g_M_balanceOf])
    rw [h5 59 (by decide) (by decide) (by decide) (by decide), e59, hnn]
    refine zif (fun c2 => ?_) (fun c2 => ?_)
    · have ed : ∀ v : Int, dbM (zm ν 384 p v) = dbM ν := fun v => by
        unfold dbM fM
        rw [zm_off _ (by decide)]
      have ef : ∀ v : Int, fM (zm ν 384 p v) = fM ν := fun v => by
        unfold fM
        rw [zm_off _ (by decide)]
      have hpu := (hMν.p).1 p (by omega) (by omega)
      rw [ed, ef, hMν.n.2.2.1, hpu]
      refine ⟨by omega, by omega, ⟨by ((try simp only [zI_e]); (first | done | omega | skip)), by omega, by omega⟩, by omega, by omega, hMν.d.2.2.2.1, by omega, by omega, ?_⟩
      have hMν2 : MTx (zm (zm ν 384 p (puA X.1.1 p)) 385 p (blL p X.1.1.2.1)) Z F X.1.1 w := hMν.k (by rw [zm_off _ (by decide), zm_off _ (by decide)])
      refine zCw.use (q_M_doorsOf (d := 50) (by decide) hMν2 (v := p) (by omega)) (by omega) (fun q ν2 e => ?_)
      obtain ⟨rfl, hmf⟩ := e
      refine ⟨_, rfl, ?_⟩
      have hb := hBd p (by omega)
      have h27 : 2 ^ Z.1.toNat ≤ 2 ^ 7 := Nat.pow_le_pow_right (by decide) (by omega)
      have hdo : 0 ≤ doA Z F X.1.1 w p ∧ doA Z F X.1.1 w p < 2147483648 := by
        unfold doA
        have : (2 : Nat) ^ 7 = 128 := by decide
        omega
      refine zCw.use (p_M_ones [vi (doA Z F X.1.1 w p)] ν2 hdo) (by omega) (fun q ν3 e => ?_)
      obtain ⟨rfl, e3⟩ := e
      rw [e3]
      refine ⟨_, rfl, by ((try simp only [zI_e]); (first | done | omega | skip)), znx (by omega) ⟨rfl, (hMν2.f hmf).k (zm_off _ (by decide)), fun q q0 q1 => ?_, fun j j1 j2 j3 j4 => ?_, ?_⟩⟩
      · rw [hmf.2 384 (by decide), hmf.2 385 (by decide), hmf.2 386 (by decide)]
        by_cases eq : q = p
        · rw [eq, zm_off 384 (by decide), zm_s, zm_s, zit_t rfl]
          exact ⟨rfl, rfl, rfl⟩
        · rw [zm_off 384 (by decide), zm_o (by omega), zm_o (by omega), zit_f eq, zm_off 386 (by decide), zm_off 386 (by decide)]
          exact hq q q0 (by omega)
      · rw [hmf.1 j j1 j2 j3 j4, zm_off 355 (by decide), zm_off 355 (by decide)]
        exact h5 j j1 j2 j3 j4
      · refine zfc.zm ?_ (by decide)
        exact ((((hf5.zm (by decide)).zm (by decide))).tr hmf.2).mo (by simp)
    · have ep : p = nn := by omega
      subst ep
      refine zCw.use (q_M_takesBack (d := 1) (k := 9) (by decide) (by decide)) (by omega) (fun q ν2 e => ?_)
      obtain ⟨rfl, t1, t2⟩ := e
      have x73 : ∀ i : Int, 73 ≤ i → ν2 357 i = ν 357 i := fun i hi => by rw [t1, zit_f (by omega)]
      refine ⟨rfl, zCw.use (q_M_good (d := 1) (by decide)) (by omega) (fun q ν3 e => ?_)⟩
      obtain ⟨rfl, rfl⟩ := e
      have hbk2 : MTx ν2 Z F A w := hMν.bk h.2.1 (κ := μ 357) (fun y y0 y1 => by
        rw [t1, zit_t ⟨y0, y1⟩, hf5 360 (by decide)]
        exact ea y y0 y1) x73 hbk n5
      refine ⟨_, rfl, rfl, hbk2.k (zm_off _ (by decide)), fun i hi => ?_, ⟨zm_s, ?_, fun j hj h0 h9 => ?_⟩, fun q q0 q1 => ?_, ?_⟩
      · rw [zm_off _ (by decide), x73 i hi, hf5 357 (by decide), e73 i hi]
      · rw [zm_o (by omega), t2 355 (by decide), h5 59 (by decide) (by decide) (by decide) (by decide), e59, hnn]
      · have := hj
        unfold kfM at this
        rw [zm_o (by omega), t2 355 (by decide), h5 j (by omega) (by omega) (by omega) (by omega), ek j hj h9]
      · rw [zm_off _ (by decide), zm_off _ (by decide), zm_off _ (by decide), t2 384 (by decide), t2 385 (by decide), t2 386 (by decide)]
        exact hq q q0 q1
      · exact ((((hf.tr hf5).tr t2).mo (by simp)).zm (by decide))


