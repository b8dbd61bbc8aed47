theorem m_M_canLend : Cond.instanceMethod y_M_canLend.1 ∈ zTb ∧ Cond.selects y_M_canLend.1.cls y_M_canLend.1 y_M_canLend.1 ∈ zTb ∧ Cond.initialized y_M_canLend.1.cls ∈ zTb ∧ Cond.code y_M_canLend.1 y_M_canLend.2.1 y_M_canLend.2.2.1 y_M_canLend.2.2.2 ∈ zTb ∧ (y_M_canLend.1.cls ≠ "java/lang/invoke/MethodHandle" ∧ y_M_canLend.1.cls ≠ "java/lang/invoke/VarHandle" ∧ (parseMethodDescriptor y_M_canLend.1.desc).map (fun d => d.parameters.length) = some 3) ∧ y_M_canLend.2.2.1 ≤ 20 :=
  ⟨(zTb_in 1828 (by decide +kernel) (by decide +kernel)), (List.mem_filter.mpr ⟨List.mem_append_left _ (by decide +kernel), by decide +kernel⟩), (zTb_in 151 (by decide +kernel) (by decide +kernel)), (zTb_in 1829 (by decide +kernel) (by decide +kernel)), by decide +kernel, by decide +kernel⟩
theorem lv_M_354 : zLv "DebtDoorsModel" 354 y_M_canLend 3 12 := ⟨⟨(zTb_in 1826 (by decide +kernel) (by decide +kernel)), m_M_canLend.1, m_M_canLend.2.1, m_M_canLend.2.2⟩, _, rfl, rfl⟩
theorem m_M_keeps : Cond.instanceMethod y_M_keeps.1 ∈ zTb ∧ Cond.selects y_M_keeps.1.cls y_M_keeps.1 y_M_keeps.1 ∈ zTb ∧ Cond.initialized y_M_keeps.1.cls ∈ zTb ∧ Cond.code y_M_keeps.1 y_M_keeps.2.1 y_M_keeps.2.2.1 y_M_keeps.2.2.2 ∈ zTb ∧ (y_M_keeps.1.cls ≠ "java/lang/invoke/MethodHandle" ∧ y_M_keeps.1.cls ≠ "java/lang/invoke/VarHandle" ∧ (parseMethodDescriptor y_M_keeps.1.desc).map (fun d => d.parameters.length) = some 1) ∧ y_M_keeps.2.2.1 ≤ 20 :=
  ⟨(zTb_in 1832 (by decide +kernel) (by decide +kernel)), (List.mem_filter.mpr ⟨List.mem_append_left _ (by decide +kernel), by decide +kernel⟩), (zTb_in 151 (by decide +kernel) (by decide +kernel)), (zTb_in 1833 (by decide +kernel) (by decide +kernel)), by decide +kernel, by decide +kernel⟩
theorem lv_M_357 : zLv "DebtDoorsModel" 357 y_M_keeps 1 12 := ⟨⟨(zTb_in 1830 (by decide +kernel) (by decide +kernel)), m_M_keeps.1, m_M_keeps.2.1, m_M_keeps.2.2⟩, _, rfl, rfl⟩
theorem m_M_lends : Cond.instanceMethod y_M_lends.1 ∈ zTb ∧ Cond.selects y_M_lends.1.cls y_M_lends.1 y_M_lends.1 ∈ zTb ∧ Cond.initialized y_M_lends.1.cls ∈ zTb ∧ Cond.code y_M_lends.1 y_M_lends.2.1 y_M_lends.2.2.1 y_M_lends.2.2.2 ∈ zTb ∧ (y_M_lends.1.cls ≠ "java/lang/invoke/MethodHandle" ∧ y_M_lends.1.cls ≠ "java/lang/invoke/VarHandle" ∧ (parseMethodDescriptor y_M_lends.1.desc).map (fun d => d.parameters.length) = some 3) ∧ y_M_lends.2.2.1 ≤ 20 :=
  ⟨(zTb_in 1836 (by decide +kernel) (by decide +kernel)), (List.mem_filter.mpr ⟨List.mem_append_left _ (by decide +kernel), by decide +kernel⟩), (zTb_in 151 (by decide +kernel) (by decide +kernel)), (zTb_in 1837 (by decide +kernel) (by decide +kernel)), by decide +kernel, by decide +kernel⟩
theorem lv_M_360 : zLv "DebtDoorsModel" 360 y_M_lends 3 12 := ⟨⟨(zTb_in 1834 (by decide +kernel) (by decide +kernel)), m_M_lends.1, m_M_lends.2.1, m_M_lends.2.2⟩, _, rfl, rfl⟩
def y_M_lendsKept : zMt := (⟨"DebtDoorsModel", "lendsKept", "(III)I"⟩, prog_14_method_88_code, 4, some .int)
theorem d_M_lendsKept_0 : decode prog_14_method_88_code 0 = .ok (.iload_n 3, 1) := by decide +kernel
theorem d_M_lendsKept_1 : decode prog_14_method_88_code 1 = .ok (.invokestatic 155, 3) := by decide +kernel
theorem d_M_lendsKept_4 : decode prog_14_method_88_code 4 = .ok (.ifCond .ne 5, 3) := by decide +kernel
theorem d_M_lendsKept_7 : decode prog_14_method_88_code 7 = .ok (.iconst (-1), 1) := by decide +kernel
theorem d_M_lendsKept_8 : decode prog_14_method_88_code 8 = .ok (.ireturn, 1) := by decide +kernel
theorem d_M_lendsKept_9 : decode prog_14_method_88_code 9 = .ok (.aload_n 0, 1) := by decide +kernel
theorem d_M_lendsKept_10 : decode prog_14_method_88_code 10 = .ok (.iload_n 1, 1) := by decide +kernel
theorem d_M_lendsKept_11 : decode prog_14_method_88_code 11 = .ok (.invokevirtual 152, 3) := by decide +kernel
theorem d_M_lendsKept_14 : decode prog_14_method_88_code 14 = .ok (.ifCond .eq 11, 3) := by decide +kernel
theorem d_M_lendsKept_17 : decode prog_14_method_88_code 17 = .ok (.aload_n 0, 1) := by decide +kernel
theorem d_M_lendsKept_18 : decode prog_14_method_88_code 18 = .ok (.iload_n 2, 1) := by decide +kernel
theorem d_M_lendsKept_19 : decode prog_14_method_88_code 19 = .ok (.invokevirtual 152, 3) := by decide +kernel
theorem d_M_lendsKept_22 : decode prog_14_method_88_code 22 = .ok (.ifCond .ne 6, 3) := by decide +kernel
theorem d_M_lendsKept_25 : decode prog_14_method_88_code 25 = .ok (.bipush (-2), 2) := by decide +kernel
theorem d_M_lendsKept_27 : decode prog_14_method_88_code 27 = .ok (.ireturn, 1) := by decide +kernel
theorem d_M_lendsKept_28 : decode prog_14_method_88_code 28 = .ok (.aload_n 0, 1) := by decide +kernel
theorem d_M_lendsKept_29 : decode prog_14_method_88_code 29 = .ok (.iload_n 1, 1) := by decide +kernel
theorem d_M_lendsKept_30 : decode prog_14_method_88_code 30 = .ok (.iload_n 2, 1) := by decide +kernel
theorem d_M_lendsKept_31 : decode prog_14_method_88_code 31 = .ok (.iload_n 3, 1) := by decide +kernel
theorem d_M_lendsKept_32 : decode prog_14_method_88_code 32 = .ok (.invokevirtual 354, 3) := by decide +kernel
theorem d_M_lendsKept_35 : decode prog_14_method_88_code 35 = .ok (.ifCond .ne 6, 3) := by decide +kernel
theorem d_M_lendsKept_38 : decode prog_14_method_88_code 38 = .ok (.bipush (-3), 2) := by decide +kernel
theorem d_M_lendsKept_40 : decode prog_14_method_88_code 40 = .ok (.ireturn, 1) := by decide +kernel
theorem d_M_lendsKept_41 : decode prog_14_method_88_code 41 = .ok (.aload_n 0, 1) := by decide +kernel
theorem d_M_lendsKept_42 : decode prog_14_method_88_code 42 = .ok (.invokevirtual 137, 3) := by decide +kernel
theorem d_M_lendsKept_45 : decode prog_14_method_88_code 45 = .ok (.bipush 16, 2) := by decide +kernel
theorem d_M_lendsKept_47 : decode prog_14_method_88_code 47 = .ok (.if_icmp .ne 6, 3) := by decide +kernel
theorem d_M_lendsKept_50 : decode prog_14_method_88_code 50 = .ok (.bipush (-5), 2) := by decide +kernel
theorem d_M_lendsKept_52 : decode prog_14_method_88_code 52 = .ok (.ireturn, 1) := by decide +kernel
theorem d_M_lendsKept_53 : decode prog_14_method_88_code 53 = .ok (.aload_n 0, 1) := by decide +kernel
theorem d_M_lendsKept_54 : decode prog_14_method_88_code 54 = .ok (.iconst 0, 1) := by decide +kernel
theorem d_M_lendsKept_55 : decode prog_14_method_88_code 55 = .ok (.invokevirtual 357, 3) := by decide +kernel
theorem d_M_lendsKept_58 : decode prog_14_method_88_code 58 = .ok (.aload_n 0, 1) := by decide +kernel
theorem d_M_lendsKept_59 : decode prog_14_method_88_code 59 = .ok (.iload_n 1, 1) := by decide +kernel
theorem d_M_lendsKept_60 : decode prog_14_method_88_code 60 = .ok (.iload_n 2, 1) := by decide +kernel
theorem d_M_lendsKept_61 : decode prog_14_method_88_code 61 = .ok (.iload_n 3, 1) := by decide +kernel
theorem d_M_lendsKept_62 : decode prog_14_method_88_code 62 = .ok (.invokevirtual 360, 3) := by decide +kernel
theorem d_M_lendsKept_65 : decode prog_14_method_88_code 65 = .ok (.iload_n 3, 1) := by decide +kernel
theorem d_M_lendsKept_66 : decode prog_14_method_88_code 66 = .ok (.ireturn, 1) := by decide +kernel
def w_M_lendsKept {d : Nat} (hd : 3 ≤ d) := (show SS ("DebtDoorsModel", prog_14_method_88_code, 4) (some .int) d 0 0 0 0 _ from (sS (p1 := 9) (sIf (pn := 9) (tt := 7) (xC (rNot (rJ1 (tgt := 9) k_ne (rS p_M_isAmount (Nat.le_trans (Nat.le_of_ble_eq_true rfl) hd) ls_M_155 (rAi rA0 (rIn 3 d_M_lendsKept_0 rfl)) (by decide) d_M_lendsKept_1) d_M_lendsKept_4 (by decide)))) (sRi (xE (rI d_M_lendsKept_7 rfl)) d_M_lendsKept_8 rfl)) (sS (p1 := 28) (sIf (pn := 28) (tt := 25) (xC (rOr (mm := 17) (rNot (rNot (rJ1 (tgt := 25) k_eq (rV p_M_isPerson (Nat.le_trans (Nat.le_of_ble_eq_true rfl) hd) lv_M_152 (rAi (rAr rA0 (rAn 0 d_M_lendsKept_9 rfl)) (rIn 1 d_M_lendsKept_10 rfl)) (by decide) d_M_lendsKept_11) d_M_lendsKept_14 (by decide)))) (rNot (rJ1 (tgt := 28) k_ne (rV p_M_isPerson (Nat.le_trans (Nat.le_of_ble_eq_true rfl) hd) lv_M_152 (rAi (rAr rA0 (rAn 0 d_M_lendsKept_17 rfl)) (rIn 2 d_M_lendsKept_18 rfl)) (by decide) d_M_lendsKept_19) d_M_lendsKept_22 (by decide))))) (sRi (xE (rB d_M_lendsKept_25 rfl)) d_M_lendsKept_27 rfl)) (sS (p1 := 41) (sIf (pn := 41) (tt := 38) (xC (rNot (rJ1 (tgt := 41) k_ne (rV p_M_canLend (Nat.le_trans (Nat.le_of_ble_eq_true rfl) hd) lv_M_354 (rAi (rAi (rAi (rAr rA0 (rAn 0 d_M_lendsKept_28 rfl)) (rIn 1 d_M_lendsKept_29 rfl)) (rIn 2 d_M_lendsKept_30 rfl)) (rIn 3 d_M_lendsKept_31 rfl)) (by decide) d_M_lendsKept_32) d_M_lendsKept_35 (by decide)))) (sRi (xE (rB d_M_lendsKept_38 rfl)) d_M_lendsKept_40 rfl)) (sS (p1 := 53) (sIf (pn := 53) (tt := 50) (xC (rNot (rJ2 (tgt := 53) j_ne (rV p_M_debts (Nat.le_trans (Nat.le_of_ble_eq_true rfl) hd) lv_M_137 (rAr rA0 (rAn 0 d_M_lendsKept_41 rfl)) (by decide) d_M_lendsKept_42) (rB d_M_lendsKept_45 rfl) d_M_lendsKept_47 (by decide)))) (sRi (xE (rB d_M_lendsKept_50 rfl)) d_M_lendsKept_52 rfl)) (sS (p1 := 58) (sV (xVv lv_M_357 (xA (rAi (rAr rA0 (rAn 0 d_M_lendsKept_53 rfl)) (rI d_M_lendsKept_54 rfl))) (by decide) d_M_lendsKept_55)) (sS (p1 := 65) (sV (xVv lv_M_360 (xA (rAi (rAi (rAi (rAr rA0 (rAn 0 d_M_lendsKept_58 rfl)) (rIn 1 d_M_lendsKept_59 rfl)) (rIn 2 d_M_lendsKept_60 rfl)) (rIn 3 d_M_lendsKept_61 rfl))) (by decide) d_M_lendsKept_62)) (sRi (xE (rIn 3 d_M_lendsKept_65 rfl)) d_M_lendsKept_66 rfl))))))))
theorem q_M_lendsKept {d : Nat} (hd : 4 ≤ d) {μ : zMem} {g t m : Int} (hn : 0 ≤ μ 357 152 ∧ μ 357 152 ≤ 7) (hp : okP (μ 357)) (hD : 0 ≤ μ 357 71 ∧ μ 357 71 ≤ 16) (hu : 0 ≤ μ 355 28 ∧ μ 355 28 ≤ 16) : zSp d 0 0 y_M_lendsKept zT0 [vr 355, vi g, vi t, vi m] μ zT0 (fun r μ' => r = some (vi (lendC (μ 357 152) (μ 357) (μ 357 71) g t m)) ∧ (lendC (μ 357 152) (μ 357) (μ 357 71) g t m < 0 → μ' = μ) ∧ (0 ≤ lendC (μ 357 152) (μ 357) (μ 357 71) g t m → lendC (μ 357 152) (μ 357) (μ 357 71) g t m = m ∧ unM μ' = kpL (unM μ) (tL 73 (μ 357) ++ [0]) ∧ (0 ≤ μ' 355 28 ∧ μ' 355 28 ≤ 16) ∧ (∀ j : Int, j ≠ 28 → μ' 355 j = μ 355 j) ∧ dbM μ' = dbM μ ++ [(t, g, m, μ 357 72)] ∧ μ' 357 71 = μ 357 71 + 1 ∧ (∀ j : Int, (j < 7 ∨ 72 ≤ j) → μ' 357 j = zit (j = t) (μ 357 t + m) (zit (j = g) (μ 357 g - m) (μ 357 j))) ∧ zfc [355, 357, 369] μ μ')) := by
  refine zSp.ss [vr 355, vi g, vi t, vi m] rfl (w_M_lendsKept (Nat.le_trans (by decide) hd)) rfl rfl ?_
  (try simp only [zit_e, Bool.and_eq_true, Bool.or_eq_true, Bool.not_eq_true', Bool.and_eq_false_iff, Bool.or_eq_false_iff, Bool.not_eq_false', zbe, zdt, zdf, zb2_p, zbp_0, zbp_1, zbp_inj, zbp_01, Bool.true_eq_false, Bool.false_eq_true, true_and, and_true, Decidable.not_not, Classical.not_not, implies_true, List.nil_append, List.cons_append, List.append_assoc, Option.some.injEq, Sum.inl.injEq, zSw_c, zSw_n]); (try simp only [zit_e, Bool.and_eq_true, Bool.or_eq_true, Bool.not_eq_true', Bool.and_eq_false_iff, Bool.or_eq_false_iff, Bool.not_eq_false', zbe, zdt, zdf, zb2_p, zbp_0, zbp_1, zbp_inj, zbp_01, Bool.true_eq_false, Bool.false_eq_true, true_and, and_true, Decidable.not_not, Classical.not_not, implies_true, List.nil_append, List.cons_append, List.append_assoc, Option.some.injEq, Sum.inl.injEq, zSw_c, zSw_n, zc_355, f_M_isAmount, g_M_isAmount, f_M_isPerson, g_M_isPerson, f_M_canLend, g_M_canLend, f_M_debts, g_M_debts]); (try simp only [zi_cs, zi_c0, zii_cs, zii_c0, zl_cs, zl_c0, zll_cs, zll_c0, zr_cs, zr_c0, zrr_cs, zrr_c0, zxs_cs, zxs_c0, zxx_cs, zxx_c0, zfree_c0, zfree_c1, zfree_cs, zfree_cz, zlong_i, zlong_r, zlong_x, zset_0, zset_s, true_and, and_true, Option.some.injEq, Sum.inl.injEq, Sum.inr.injEq, zb2_p, zbp_0, zbp_1, zbp_inj, zbp_01, Nat.zero_add, Nat.reduceAdd, implies_true, List.nil_append, List.cons_append, List.append_assoc, Int.not_lt, Int.not_le, Decidable.not_not, Int.zero_add, Int.reduceLE, Int.reduceLT, Int.reduceEq, Int.reduceNe, Int.reduceAdd, Int.reduceSub, Int.reduceMul, Int.reduceNeg, Int.reduceToNat, Nat.reduceMul, Nat.reduceLT, Nat.reduceEqDiff, and_self, ite_true, ite_false, zx1, zx2, zRecv, List.length_cons, List.length_nil, ne_eq, not_true_eq_false, not_false_eq_true, true_or, or_true, or_false, false_or, and_false, false_and, zf01, zf10, reduceCtorEq, zSw_c, zSw_n, zm_r, zit_T, zit_F, false_implies, true_implies, zc_355, f_M_isAmount, g_M_isAmount, f_M_isPerson, g_M_isPerson, f_M_canLend, g_M_canLend, f_M_debts, g_M_debts])
  have neg : ∀ {c : Int} {A : Prop}, c < 0 → lendC (μ 357 152) (μ 357) (μ 357 71) g t m = c → c = lendC (μ 357 152) (μ 357) (μ 357 71) g t m ∧ (0 ≤ lendC (μ 357 152) (μ 357) (μ 357 71) g t m → A) := fun hc e => by
    rw [e]
    exact ⟨rfl, fun h => absurd h (by omega)⟩
  refine zif (fun c1 => neg (by decide) (zit_t c1)) (fun c1 => ?_)
  refine ⟨⟨hn, fun _ => hn⟩, ?_⟩
  refine zif (fun c2 => neg (by decide) ((zit_f c1).trans (zit_t (by omega)))) (fun c2 => ?_)
  have hpg := hp g (by omega) (by omega)
  have hpt := hp t (by omega) (by omega)
  refine ⟨by omega, ?_⟩
  refine zif (fun c3 => neg (by decide) ((zit_f c1).trans ((zit_f (by omega)).trans (zit_t (by omega))))) (fun c3 => ?_)
  refine zif (fun c4 => neg (by decide) ((zit_f c1).trans ((zit_f (by omega)).trans ((zit_f (by omega)).trans (zit_t (by omega)))))) (fun c4 => ?_)
  have e : lendC (μ 357 152) (μ 357) (μ 357 71) g t m = m := (zit_f c1).trans ((zit_f (by omega)).trans ((zit_f (by omega)).trans (zit_f (by omega))))
  rw [e]
  refine zCw.use (q_M_keeps (d := 1) (by decide) hu) (by omega) (fun q μ1 e1 => ?_)
  obtain ⟨a0, a1, a2, a3, a4⟩ := e1
  have k7 : μ1 357 = μ 357 := a4 357 (by decide)
  refine ⟨a0, ?_⟩
  have hgt : ∀ v : Int, zm μ1 357 g v 357 t = μ 357 t := fun v => by rw [zm_r, zit_t rfl, zit_f (by omega), k7]
  refine zCw.use (q_M_lends (d := 3) (by decide) (by rw [k7]; omega) (by omega) (by omega) ⟨by rw [k7]; ((try simp only [zI_e]); (first | done | omega | skip)), by rw [hgt]; ((try simp only [zI_e]); (first | done | omega | skip))⟩) (by omega) (fun q μ2 e2 => ?_)
  obtain ⟨b0, b1, b2, b3, b4⟩ := e2
  have hdb : dbM μ1 = dbM μ := by unfold dbM fM; rw [k7]
  have hun : unM μ2 = unM μ1 := by unfold unM rwM; rw [b4 355 (by decide), b4 369 (by decide)]
  refine ⟨b0, rfl, fun h => absurd h (by omega), fun _ => ⟨rfl, by rw [hun, a1], by rw [b4 355 (by decide)]; exact a2, fun j hj => by rw [b4 355 (by decide)]; exact a3 j hj, by rw [b1, hdb, k7], by rw [b2, k7], fun j hj => ?_, (a4.tr b4).mo (by simp)⟩⟩
  rw [b3 j hj, hgt, k7]
  simp only [zm_r, zit_T, k7]

