/-! clear -/
theorem m_Cl_least : Cond.instanceMethod y_Cl_least.1 ∈ zTb ∧ Cond.selects y_Cl_least.1.cls y_Cl_least.1 y_Cl_least.1 ∈ zTb ∧ Cond.initialized y_Cl_least.1.cls ∈ zTb ∧ Cond.code y_Cl_least.1 y_Cl_least.2.1 y_Cl_least.2.2.1 y_Cl_least.2.2.2 ∈ zTb ∧ (y_Cl_least.1.cls ≠ "java/lang/invoke/MethodHandle" ∧ y_Cl_least.1.cls ≠ "java/lang/invoke/VarHandle" ∧ (parseMethodDescriptor y_Cl_least.1.desc).map (fun d => d.parameters.length) = some 1) ∧ y_Cl_least.2.2.1 ≤ 20 :=
  ⟨(zTb_in 1059 (by decide +kernel) (by decide +kernel)), (zTb_in 1060 (by decide +kernel) (by decide +kernel)), (zTb_in 149 (by decide +kernel) (by decide +kernel)), (zTb_in 1061 (by decide +kernel) (by decide +kernel)), by decide +kernel, by decide +kernel⟩
theorem lv_D_314 : zLv "DebtDoors" 314 y_Cl_least 1 0 := ⟨⟨(zTb_in 1058 (by decide +kernel) (by decide +kernel)), m_Cl_least.1, m_Cl_least.2.1, m_Cl_least.2.2⟩, _, rfl, rfl⟩
theorem m_Cl_lessenAll : Cond.instanceMethod y_Cl_lessenAll.1 ∈ zTb ∧ Cond.selects y_Cl_lessenAll.1.cls y_Cl_lessenAll.1 y_Cl_lessenAll.1 ∈ zTb ∧ Cond.initialized y_Cl_lessenAll.1.cls ∈ zTb ∧ Cond.code y_Cl_lessenAll.1 y_Cl_lessenAll.2.1 y_Cl_lessenAll.2.2.1 y_Cl_lessenAll.2.2.2 ∈ zTb ∧ (y_Cl_lessenAll.1.cls ≠ "java/lang/invoke/MethodHandle" ∧ y_Cl_lessenAll.1.cls ≠ "java/lang/invoke/VarHandle" ∧ (parseMethodDescriptor y_Cl_lessenAll.1.desc).map (fun d => d.parameters.length) = some 2) ∧ y_Cl_lessenAll.2.2.1 ≤ 20 :=
  ⟨(zTb_in 1066 (by decide +kernel) (by decide +kernel)), (zTb_in 1067 (by decide +kernel) (by decide +kernel)), (zTb_in 149 (by decide +kernel) (by decide +kernel)), (zTb_in 1068 (by decide +kernel) (by decide +kernel)), by decide +kernel, by decide +kernel⟩
theorem lv_D_318 : zLv "DebtDoors" 318 y_Cl_lessenAll 2 0 := ⟨⟨(zTb_in 1065 (by decide +kernel) (by decide +kernel)), m_Cl_lessenAll.1, m_Cl_lessenAll.2.1, m_Cl_lessenAll.2.2⟩, _, rfl, rfl⟩
def y_D_clear : zMt := (⟨"DebtDoors", "clear", "()I"⟩, prog_1_method_33_code, 2, some .int)
theorem d_D_clear_0 : decode prog_1_method_33_code 0 = .ok (.aload_n 0, 1) := by decide +kernel
theorem d_D_clear_1 : decode prog_1_method_33_code 1 = .ok (.getfield 79, 3) := by decide +kernel
theorem d_D_clear_4 : decode prog_1_method_33_code 4 = .ok (.aload_n 0, 1) := by decide +kernel
theorem d_D_clear_5 : decode prog_1_method_33_code 5 = .ok (.getfield 12, 3) := by decide +kernel
theorem d_D_clear_8 : decode prog_1_method_33_code 8 = .ok (.invokevirtual 307, 3) := by decide +kernel
theorem d_D_clear_11 : decode prog_1_method_33_code 11 = .ok (.aload_n 0, 1) := by decide +kernel
theorem d_D_clear_12 : decode prog_1_method_33_code 12 = .ok (.getfield 79, 3) := by decide +kernel
theorem d_D_clear_15 : decode prog_1_method_33_code 15 = .ok (.getfield 311, 3) := by decide +kernel
theorem d_D_clear_18 : decode prog_1_method_33_code 18 = .ok (.ifCond .ne 10, 3) := by decide +kernel
theorem d_D_clear_21 : decode prog_1_method_33_code 21 = .ok (.aload_n 0, 1) := by decide +kernel
theorem d_D_clear_22 : decode prog_1_method_33_code 22 = .ok (.bipush (-3), 2) := by decide +kernel
theorem d_D_clear_24 : decode prog_1_method_33_code 24 = .ok (.invokevirtual 108, 3) := by decide +kernel
theorem d_D_clear_27 : decode prog_1_method_33_code 27 = .ok (.ireturn, 1) := by decide +kernel
theorem d_D_clear_28 : decode prog_1_method_33_code 28 = .ok (.aload_n 0, 1) := by decide +kernel
theorem d_D_clear_29 : decode prog_1_method_33_code 29 = .ok (.getfield 34, 3) := by decide +kernel
theorem d_D_clear_32 : decode prog_1_method_33_code 32 = .ok (.aload_n 0, 1) := by decide +kernel
theorem d_D_clear_33 : decode prog_1_method_33_code 33 = .ok (.getfield 12, 3) := by decide +kernel
theorem d_D_clear_36 : decode prog_1_method_33_code 36 = .ok (.getfield 115, 3) := by decide +kernel
theorem d_D_clear_39 : decode prog_1_method_33_code 39 = .ok (.invokevirtual 263, 3) := by decide +kernel
theorem d_D_clear_42 : decode prog_1_method_33_code 42 = .ok (.aload_n 0, 1) := by decide +kernel
theorem d_D_clear_43 : decode prog_1_method_33_code 43 = .ok (.getfield 79, 3) := by decide +kernel
theorem d_D_clear_46 : decode prog_1_method_33_code 46 = .ok (.aload_n 0, 1) := by decide +kernel
theorem d_D_clear_47 : decode prog_1_method_33_code 47 = .ok (.getfield 12, 3) := by decide +kernel
theorem d_D_clear_50 : decode prog_1_method_33_code 50 = .ok (.getfield 115, 3) := by decide +kernel
theorem d_D_clear_53 : decode prog_1_method_33_code 53 = .ok (.invokevirtual 314, 3) := by decide +kernel
theorem d_D_clear_56 : decode prog_1_method_33_code 56 = .ok (.istore_n 1, 1) := by decide +kernel
theorem d_D_clear_57 : decode prog_1_method_33_code 57 = .ok (.aload_n 0, 1) := by decide +kernel
theorem d_D_clear_58 : decode prog_1_method_33_code 58 = .ok (.getfield 79, 3) := by decide +kernel
theorem d_D_clear_61 : decode prog_1_method_33_code 61 = .ok (.aload_n 0, 1) := by decide +kernel
theorem d_D_clear_62 : decode prog_1_method_33_code 62 = .ok (.getfield 12, 3) := by decide +kernel
theorem d_D_clear_65 : decode prog_1_method_33_code 65 = .ok (.getfield 115, 3) := by decide +kernel
theorem d_D_clear_68 : decode prog_1_method_33_code 68 = .ok (.iload_n 1, 1) := by decide +kernel
theorem d_D_clear_69 : decode prog_1_method_33_code 69 = .ok (.invokevirtual 318, 3) := by decide +kernel
theorem d_D_clear_72 : decode prog_1_method_33_code 72 = .ok (.aload_n 0, 1) := by decide +kernel
theorem d_D_clear_73 : decode prog_1_method_33_code 73 = .ok (.iconst 5, 1) := by decide +kernel
theorem d_D_clear_74 : decode prog_1_method_33_code 74 = .ok (.iload_n 1, 1) := by decide +kernel
theorem d_D_clear_75 : decode prog_1_method_33_code 75 = .ok (.invokevirtual 295, 3) := by decide +kernel
theorem d_D_clear_78 : decode prog_1_method_33_code 78 = .ok (.ireturn, 1) := by decide +kernel
def w_D_clear {d : Nat} (hd : 4 ≤ d) := (show SS ("DebtDoors", prog_1_method_33_code, 2) (some .int) d 0 0 0 0 _ from (sS (p1 := 11) (sV (xVv lv_D_307 (xA (rAr (rAr rA0 (rFr fl_D_79 nk_11_11 (rAn 0 d_D_clear_0 rfl) d_D_clear_1)) (rFr fl_D_12 nk_11_0 (rAn 0 d_D_clear_4 rfl) d_D_clear_5))) (by decide) d_D_clear_8)) (sS (p1 := 28) (sIf (pn := 28) (tt := 21) (xC (rNot (rJ1 (tgt := 28) k_ne (rF 4 fl_D_311 nk_0_4 (rFr fl_D_79 nk_11_11 (rAn 0 d_D_clear_11 rfl) d_D_clear_12) d_D_clear_15 rfl) d_D_clear_18 (by decide)))) (sRi (xV lv_D_108 (xA (rAi (rAr rA0 (rAn 0 d_D_clear_21 rfl)) (rB d_D_clear_22 rfl))) (by decide) d_D_clear_24) d_D_clear_27 rfl)) (sS (p1 := 42) (sV (xVv lv_D_263 (xA (rAr (rAr rA0 (rFr fl_D_34 nk_11_4 (rAn 0 d_D_clear_28 rfl) d_D_clear_29)) (rFr fl_D_115 nk_9_0 (rFr fl_D_12 nk_11_0 (rAn 0 d_D_clear_32 rfl) d_D_clear_33) d_D_clear_36))) (by decide) d_D_clear_39)) (sS (p1 := 57) (sIn 1 (xE (rV p_Cl_least (Nat.le_trans (Nat.le_of_ble_eq_true rfl) hd) lv_D_314 (rAr (rAr rA0 (rFr fl_D_79 nk_11_11 (rAn 0 d_D_clear_42 rfl) d_D_clear_43)) (rFr fl_D_115 nk_9_0 (rFr fl_D_12 nk_11_0 (rAn 0 d_D_clear_46 rfl) d_D_clear_47) d_D_clear_50)) (by decide) d_D_clear_53)) d_D_clear_56 rfl (by decide)) (sS (p1 := 72) (sV (xVv lv_D_318 (xA (rAi (rAr (rAr rA0 (rFr fl_D_79 nk_11_11 (rAn 0 d_D_clear_57 rfl) d_D_clear_58)) (rFr fl_D_115 nk_9_0 (rFr fl_D_12 nk_11_0 (rAn 0 d_D_clear_61 rfl) d_D_clear_62) d_D_clear_65)) (rIn 1 d_D_clear_68 rfl))) (by decide) d_D_clear_69)) (sRi (xV lv_D_295 (xA (rAi (rAi (rAr rA0 (rAn 0 d_D_clear_72 rfl)) (rI d_D_clear_73 rfl)) (rIn 1 d_D_clear_74 rfl))) (by decide) d_D_clear_75) d_D_clear_78 rfl)))))))
theorem m_M_ringLeast : Cond.instanceMethod y_M_ringLeast.1 ∈ zTb ∧ Cond.selects y_M_ringLeast.1.cls y_M_ringLeast.1 y_M_ringLeast.1 ∈ zTb ∧ Cond.initialized y_M_ringLeast.1.cls ∈ zTb ∧ Cond.code y_M_ringLeast.1 y_M_ringLeast.2.1 y_M_ringLeast.2.2.1 y_M_ringLeast.2.2.2 ∈ zTb ∧ (y_M_ringLeast.1.cls ≠ "java/lang/invoke/MethodHandle" ∧ y_M_ringLeast.1.cls ≠ "java/lang/invoke/VarHandle" ∧ (parseMethodDescriptor y_M_ringLeast.1.desc).map (fun d => d.parameters.length) = some 0) ∧ y_M_ringLeast.2.2.1 ≤ 20 :=
  ⟨(zTb_in 1995 (by decide +kernel) (by decide +kernel)), (List.mem_filter.mpr ⟨List.mem_append_left _ (by decide +kernel), by decide +kernel⟩), (zTb_in 151 (by decide +kernel) (by decide +kernel)), (zTb_in 1996 (by decide +kernel) (by decide +kernel)), by decide +kernel, by decide +kernel⟩
theorem lv_M_458 : zLv "DebtDoorsModel" 458 y_M_ringLeast 0 12 := ⟨⟨(zTb_in 1993 (by decide +kernel) (by decide +kernel)), m_M_ringLeast.1, m_M_ringLeast.2.1, m_M_ringLeast.2.2⟩, _, rfl, rfl⟩
theorem m_M_clears : Cond.instanceMethod y_M_clears.1 ∈ zTb ∧ Cond.selects y_M_clears.1.cls y_M_clears.1 y_M_clears.1 ∈ zTb ∧ Cond.initialized y_M_clears.1.cls ∈ zTb ∧ Cond.code y_M_clears.1 y_M_clears.2.1 y_M_clears.2.2.1 y_M_clears.2.2.2 ∈ zTb ∧ (y_M_clears.1.cls ≠ "java/lang/invoke/MethodHandle" ∧ y_M_clears.1.cls ≠ "java/lang/invoke/VarHandle" ∧ (parseMethodDescriptor y_M_clears.1.desc).map (fun d => d.parameters.length) = some 1) ∧ y_M_clears.2.2.1 ≤ 20 :=
  ⟨(zTb_in 1999 (by decide +kernel) (by decide +kernel)), (List.mem_filter.mpr ⟨List.mem_append_left _ (by decide +kernel), by decide +kernel⟩), (zTb_in 151 (by decide +kernel) (by decide +kernel)), (zTb_in 2000 (by decide +kernel) (by decide +kernel)), by decide +kernel, by decide +kernel⟩
theorem lv_M_461 : zLv "DebtDoorsModel" 461 y_M_clears 1 12 := ⟨⟨(zTb_in 1997 (by decide +kernel) (by decide +kernel)), m_M_clears.1, m_M_clears.2.1, m_M_clears.2.2⟩, _, rfl, rfl⟩
def y_M_clear : zMt := (⟨"DebtDoorsModel", "clear", "()I"⟩, prog_14_method_125_code, 2, some .int)
theorem d_M_clear_0 : decode prog_14_method_125_code 0 = .ok (.aload_n 0, 1) := by decide +kernel
theorem d_M_clear_1 : decode prog_14_method_125_code 1 = .ok (.invokevirtual 455, 3) := by decide +kernel
theorem d_M_clear_4 : decode prog_14_method_125_code 4 = .ok (.aload_n 0, 1) := by decide +kernel
theorem d_M_clear_5 : decode prog_14_method_125_code 5 = .ok (.getfield 446, 3) := by decide +kernel
theorem d_M_clear_8 : decode prog_14_method_125_code 8 = .ok (.ifCond .ne 10, 3) := by decide +kernel
theorem d_M_clear_11 : decode prog_14_method_125_code 11 = .ok (.aload_n 0, 1) := by decide +kernel
theorem d_M_clear_12 : decode prog_14_method_125_code 12 = .ok (.bipush (-3), 2) := by decide +kernel
theorem d_M_clear_14 : decode prog_14_method_125_code 14 = .ok (.invokevirtual 127, 3) := by decide +kernel
theorem d_M_clear_17 : decode prog_14_method_125_code 17 = .ok (.ireturn, 1) := by decide +kernel
theorem d_M_clear_18 : decode prog_14_method_125_code 18 = .ok (.aload_n 0, 1) := by decide +kernel
theorem d_M_clear_19 : decode prog_14_method_125_code 19 = .ok (.invokevirtual 458, 3) := by decide +kernel
theorem d_M_clear_22 : decode prog_14_method_125_code 22 = .ok (.istore_n 1, 1) := by decide +kernel
theorem d_M_clear_23 : decode prog_14_method_125_code 23 = .ok (.aload_n 0, 1) := by decide +kernel
theorem d_M_clear_24 : decode prog_14_method_125_code 24 = .ok (.iconst 5, 1) := by decide +kernel
theorem d_M_clear_25 : decode prog_14_method_125_code 25 = .ok (.invokevirtual 357, 3) := by decide +kernel
theorem d_M_clear_28 : decode prog_14_method_125_code 28 = .ok (.aload_n 0, 1) := by decide +kernel
theorem d_M_clear_29 : decode prog_14_method_125_code 29 = .ok (.iload_n 1, 1) := by decide +kernel
theorem d_M_clear_30 : decode prog_14_method_125_code 30 = .ok (.invokevirtual 461, 3) := by decide +kernel
theorem d_M_clear_33 : decode prog_14_method_125_code 33 = .ok (.aload_n 0, 1) := by decide +kernel
theorem d_M_clear_34 : decode prog_14_method_125_code 34 = .ok (.iload_n 1, 1) := by decide +kernel
theorem d_M_clear_35 : decode prog_14_method_125_code 35 = .ok (.invokevirtual 14, 3) := by decide +kernel
theorem d_M_clear_38 : decode prog_14_method_125_code 38 = .ok (.ireturn, 1) := by decide +kernel
def w_M_clear {d : Nat} (hd : 4 ≤ d) := (show SS ("DebtDoorsModel", prog_14_method_125_code, 2) (some .int) d 0 0 0 0 _ from (sS (p1 := 4) (sV (xVv lv_M_455 (xA (rAr rA0 (rAn 0 d_M_clear_0 rfl))) (by decide) d_M_clear_1)) (sS (p1 := 18) (sIf (pn := 18) (tt := 11) (xC (rNot (rJ1 (tgt := 18) k_ne (rF 43 fl_M_446 nk_12_43 (rAn 0 d_M_clear_4 rfl) d_M_clear_5 rfl) d_M_clear_8 (by decide)))) (sRi (xV lv_M_127 (xA (rAi (rAr rA0 (rAn 0 d_M_clear_11 rfl)) (rB d_M_clear_12 rfl))) (by decide) d_M_clear_14) d_M_clear_17 rfl)) (sS (p1 := 23) (sIn 1 (xE (rV p_M_ringLeast (Nat.le_trans (Nat.le_of_ble_eq_true rfl) hd) lv_M_458 (rAr rA0 (rAn 0 d_M_clear_18 rfl)) (by decide) d_M_clear_19)) d_M_clear_22 rfl (by decide)) (sS (p1 := 28) (sV (xVv lv_M_357 (xA (rAi (rAr rA0 (rAn 0 d_M_clear_23 rfl)) (rI d_M_clear_24 rfl))) (by decide) d_M_clear_25)) (sS (p1 := 33) (sV (xVv lv_M_461 (xA (rAi (rAr rA0 (rAn 0 d_M_clear_28 rfl)) (rIn 1 d_M_clear_29 rfl))) (by decide) d_M_clear_30)) (sRi (xV lv_M_14 (xA (rAi (rAr rA0 (rAn 0 d_M_clear_33 rfl)) (rIn 1 d_M_clear_34 rfl))) (by decide) d_M_clear_35) d_M_clear_38 rfl)))))))
theorem LC_clear : LC y_D_clear y_M_clear [] := LC.de (fun k μ Z F A w h0 h1 hJ hC hM => by
  obtain ⟨n1, n2, n3, n4, n5, n6, n7⟩ := hC.n
  have hr := hJ.rD h0 h1
  have hz7 := hC.1.1
  have sD := q_C_seek (d := 12) (by decide) hC
  have sM : ∀ μ1, HM μ μ1 → _ := fun μ1 hm => q_R_findsRing (d := 13) (by decide) (hM.k (μ' := μ1) (hm 357 (by decide)))
  generalize rgA Z A = B at *
  rcases B with _ | l
  · refine ⟨-3, 5, 0, A, ⟨by decide, by decide, by decide⟩, fun q => absurd q (by decide), ?_, ?_⟩
    · refine zCw.use (zSp.ss [vr 0, vx 0] rfl (w_D_clear (d := 100) (by decide)) rfl rfl ?_) (by decide) (fun q μ' e => e)
      (try simp only [zit_e, Bool.and_eq_true, Bool.or_eq_true, Bool.not_eq_true', Bool.and_eq_false_iff, Bool.or_eq_false_iff, Bool.not_eq_false', zbe, zdt, zdf, zb2_p, zbp_0, zbp_1, zbp_inj, zbp_01, Bool.true_eq_false, Bool.false_eq_true, true_and, and_true, Decidable.not_not, Classical.not_not, implies_true, List.nil_append, List.cons_append, List.append_assoc, Option.some.injEq, Sum.inl.injEq, zSw_c, zSw_n]); (try simp only [zit_e, Bool.and_eq_true, Bool.or_eq_true, Bool.not_eq_true', Bool.and_eq_false_iff, Bool.or_eq_false_iff, Bool.not_eq_false', zbe, zdt, zdf, zb2_p, zbp_0, zbp_1, zbp_inj, zbp_01, Bool.true_eq_false, Bool.false_eq_true, true_and, and_true, Decidable.not_not, Classical.not_not, implies_true, List.nil_append, List.cons_append, List.append_assoc, Option.some.injEq, Sum.inl.injEq, zSw_c, zSw_n, zc_0, zc_1, zc_2, zc_111, zc_346]); (try simp only [zi_cs, zi_c0, zii_cs, zii_c0, zl_cs, zl_c0, zll_cs, zll_c0, zr_cs, zr_c0, zrr_cs, zrr_c0, zxs_cs, zxs_c0, zxx_cs, zxx_c0, zfree_c0, zfree_c1, zfree_cs, zfree_cz, zlong_i, zlong_r, zlong_x, zset_0, zset_s, true_and, and_true, Option.some.injEq, Sum.inl.injEq, Sum.inr.injEq, zb2_p, zbp_0, zbp_1, zbp_inj, zbp_01, Nat.zero_add, Nat.reduceAdd, implies_true, List.nil_append, List.cons_append, List.append_assoc, Int.not_lt, Int.not_le, Decidable.not_not, Int.zero_add, Int.reduceLE, Int.reduceLT, Int.reduceEq, Int.reduceNe, Int.reduceAdd, Int.reduceSub, Int.reduceMul, Int.reduceNeg, Int.reduceToNat, Nat.reduceMul, Nat.reduceLT, Nat.reduceEqDiff, and_self, ite_true, ite_false, zx1, zx2, zRecv, List.length_cons, List.length_nil, ne_eq, not_true_eq_false, not_false_eq_true, true_or, or_true, or_false, false_or, and_false, false_and, zf01, zf10, reduceCtorEq, zSw_c, zSw_n, zm_r, zit_T, zit_F, false_implies, true_implies, zc_0, zc_1, zc_2, zc_111, zc_346])
      refine zCw.use sD (by omega) (fun q μ2 e => ?_)
      obtain ⟨rfl, hF, hL, hR⟩ := e
      have hm : HM μ μ2 := hF.hm (by simp)
      have hk : KC μ μ2 := hF.kc (by simp [scC])
      refine ⟨rfl, ?_⟩
      have hR : μ2 346 4 = 0 := hR
      rw [if_pos hR]
      exact rfD_w (by omega) (by omega) (by rw [hF 354 (by decide)]; exact hr) ⟨_, rfl, OD.no rfl (by decide) (PJc.k hm hk)⟩
    · intro μ1 hm
      have hr := hJ.rM h0 h1 hm
      refine zCw.use (zSp.ss [vr 355, vx 0] rfl (w_M_clear (d := 100) (by decide)) rfl rfl ?_) (by decide) (fun q μ' e => e)
      (try simp only [zit_e, Bool.and_eq_true, Bool.or_eq_true, Bool.not_eq_true', Bool.and_eq_false_iff, Bool.or_eq_false_iff, Bool.not_eq_false', zbe, zdt, zdf, zb2_p, zbp_0, zbp_1, zbp_inj, zbp_01, Bool.true_eq_false, Bool.false_eq_true, true_and, and_true, Decidable.not_not, Classical.not_not, implies_true, List.nil_append, List.cons_append, List.append_assoc, Option.some.injEq, Sum.inl.injEq, zSw_c, zSw_n]); (try simp only [zit_e, Bool.and_eq_true, Bool.or_eq_true, Bool.not_eq_true', Bool.and_eq_false_iff, Bool.or_eq_false_iff, Bool.not_eq_false', zbe, zdt, zdf, zb2_p, zbp_0, zbp_1, zbp_inj, zbp_01, Bool.true_eq_false, Bool.false_eq_true, true_and, and_true, Decidable.not_not, Classical.not_not, implies_true, List.nil_append, List.cons_append, List.append_assoc, Option.some.injEq, Sum.inl.injEq, zSw_c, zSw_n, zc_355]); (try simp only [zi_cs, zi_c0, zii_cs, zii_c0, zl_cs, zl_c0, zll_cs, zll_c0, zr_cs, zr_c0, zrr_cs, zrr_c0, zxs_cs, zxs_c0, zxx_cs, zxx_c0, zfree_c0, zfree_c1, zfree_cs, zfree_cz, zlong_i, zlong_r, zlong_x, zset_0, zset_s, true_and, and_true, Option.some.injEq, Sum.inl.injEq, Sum.inr.injEq, zb2_p, zbp_0, zbp_1, zbp_inj, zbp_01, Nat.zero_add, Nat.reduceAdd, implies_true, List.nil_append, List.cons_append, List.append_assoc, Int.not_lt, Int.not_le, Decidable.not_not, Int.zero_add, Int.reduceLE, Int.reduceLT, Int.reduceEq, Int.reduceNe, Int.reduceAdd, Int.reduceSub, Int.reduceMul, Int.reduceNeg, Int.reduceToNat, Nat.reduceMul, Nat.reduceLT, Nat.reduceEqDiff, and_self, ite_true, ite_false, zx1, zx2, zRecv, List.length_cons, List.length_nil, ne_eq, not_true_eq_false, not_false_eq_true, true_or, or_true, or_false, false_or, and_false, false_and, zf01, zf10, reduceCtorEq, zSw_c, zSw_n, zm_r, zit_T, zit_F, false_implies, true_implies, zc_355])
      refine zCw.use (sM μ1 hm) (by omega) (fun q μ2 e => ?_)
      obtain ⟨rfl, hF, hL, hR⟩ := e
      refine ⟨rfl, ?_⟩
      have hR : μ2 355 43 = 0 := hR
      rw [if_pos hR]
      exact rfM_w (by omega) (by omega) (by rw [hF.1 356 (by decide)]; exact hr) ⟨_, rfl, OM.no rfl (by decide) (PJm.k (hF.1.hc (by simp)) hF.km)⟩
  · have hin := rlA_in (l := l) (M := 1000000000) hC.2.1 (by decide) l.length
    generalize hm0 : rlA A l 1000000000 l.length = m at *
    refine ⟨0, 5, m, clA l m A l.length, ⟨by decide, by decide, by decide⟩, fun q => (clA_ok hC.2.1 hin.1 _).1, ?_, ?_⟩
    · refine zCw.use (zSp.ss [vr 0, vx 0] rfl (w_D_clear (d := 100) (by decide)) rfl rfl ?_) (by decide) (fun q μ' e => e)
      (try simp only [zit_e, Bool.and_eq_true, Bool.or_eq_true, Bool.not_eq_true', Bool.and_eq_false_iff, Bool.or_eq_false_iff, Bool.not_eq_false', zbe, zdt, zdf, zb2_p, zbp_0, zbp_1, zbp_inj, zbp_01, Bool.true_eq_false, Bool.false_eq_true, true_and, and_true, Decidable.not_not, Classical.not_not, implies_true, List.nil_append, List.cons_append, List.append_assoc, Option.some.injEq, Sum.inl.injEq, zSw_c, zSw_n]); (try simp only [zit_e, Bool.and_eq_true, Bool.or_eq_true, Bool.not_eq_true', Bool.and_eq_false_iff, Bool.or_eq_false_iff, Bool.not_eq_false', zbe, zdt, zdf, zb2_p, zbp_0, zbp_1, zbp_inj, zbp_01, Bool.true_eq_false, Bool.false_eq_true, true_and, and_true, Decidable.not_not, Classical.not_not, implies_true, List.nil_append, List.cons_append, List.append_assoc, Option.some.injEq, Sum.inl.injEq, zSw_c, zSw_n, zc_0, zc_1, zc_2, zc_111, zc_346]); (try simp only [zi_cs, zi_c0, zii_cs, zii_c0, zl_cs, zl_c0, zll_cs, zll_c0, zr_cs, zr_c0, zrr_cs, zrr_c0, zxs_cs, zxs_c0, zxx_cs, zxx_c0, zfree_c0, zfree_c1, zfree_cs, zfree_cz, zlong_i, zlong_r, zlong_x, zset_0, zset_s, true_and, and_true, Option.some.injEq, Sum.inl.injEq, Sum.inr.injEq, zb2_p, zbp_0, zbp_1, zbp_inj, zbp_01, Nat.zero_add, Nat.reduceAdd, implies_true, List.nil_append, List.cons_append, List.append_assoc, Int.not_lt, Int.not_le, Decidable.not_not, Int.zero_add, Int.reduceLE, Int.reduceLT, Int.reduceEq, Int.reduceNe, Int.reduceAdd, Int.reduceSub, Int.reduceMul, Int.reduceNeg, Int.reduceToNat, Nat.reduceMul, Nat.reduceLT, Nat.reduceEqDiff, and_self, ite_true, ite_false, zx1, zx2, zRecv, List.length_cons, List.length_nil, ne_eq, not_true_eq_false, not_false_eq_true, true_or, or_true, or_false, false_or, and_false, false_and, zf01, zf10, reduceCtorEq, zSw_c, zSw_n, zm_r, zit_T, zit_F, false_implies, true_implies, zc_0, zc_1, zc_2, zc_111, zc_346])
      refine zCw.use sD (by omega) (fun q μ2 e => ?_)
      obtain ⟨rfl, hF, hL, hR⟩ := e
      have hm : HM μ μ2 := hF.hm (by simp)
      have hk : KC μ μ2 := hF.kc (by simp [scC])
      have hll := LR_l (by omega) hL
      have hin := hin.2.2 (by omega)
      refine ⟨rfl, ?_⟩
      rw [if_neg (by rw [hR.1]; omega)]
      have hs2 : SlO μ2 := hJ.2.1.so.c (fun c p q => hF c (by simp only [List.mem_cons, List.not_mem_nil, or_false]; omega))
      refine hoC_w (by omega) hs2 (by rw [hF 2 (by decide)]; exact n5) (fun X hX hk2 => ?_)
      have hX := hX.pre hk hJ.2.1.so
      refine ⟨rfl, ?_⟩
      (try simp only [zit_e, Bool.and_eq_true, Bool.or_eq_true, Bool.not_eq_true', Bool.and_eq_false_iff, Bool.or_eq_false_iff, Bool.not_eq_false', zbe, zdt, zdf, zb2_p, zbp_0, zbp_1, zbp_inj, zbp_01, Bool.true_eq_false, Bool.false_eq_true, true_and, and_true, Decidable.not_not, Classical.not_not, implies_true, List.nil_append, List.cons_append, List.append_assoc, Option.some.injEq, Sum.inl.injEq, zSw_c, zSw_n]); (try simp only [zit_e, Bool.and_eq_true, Bool.or_eq_true, Bool.not_eq_true', Bool.and_eq_false_iff, Bool.or_eq_false_iff, Bool.not_eq_false', zbe, zdt, zdf, zb2_p, zbp_0, zbp_1, zbp_inj, zbp_01, Bool.true_eq_false, Bool.false_eq_true, true_and, and_true, Decidable.not_not, Classical.not_not, implies_true, List.nil_append, List.cons_append, List.append_assoc, Option.some.injEq, Sum.inl.injEq, zSw_c, zSw_n, zc_0, zc_1, zc_2, zc_111, zc_346]); (try simp only [zi_cs, zi_c0, zii_cs, zii_c0, zl_cs, zl_c0, zll_cs, zll_c0, zr_cs, zr_c0, zrr_cs, zrr_c0, zxs_cs, zxs_c0, zxx_cs, zxx_c0, zfree_c0, zfree_c1, zfree_cs, zfree_cz, zlong_i, zlong_r, zlong_x, zset_0, zset_s, true_and, and_true, Option.some.injEq, Sum.inl.injEq, Sum.inr.injEq, zb2_p, zbp_0, zbp_1, zbp_inj, zbp_01, Nat.zero_add, Nat.reduceAdd, implies_true, List.nil_append, List.cons_append, List.append_assoc, Int.not_lt, Int.not_le, Decidable.not_not, Int.zero_add, Int.reduceLE, Int.reduceLT, Int.reduceEq, Int.reduceNe, Int.reduceAdd, Int.reduceSub, Int.reduceMul, Int.reduceNeg, Int.reduceToNat, Nat.reduceMul, Nat.reduceLT, Nat.reduceEqDiff, and_self, ite_true, ite_false, zx1, zx2, zRecv, List.length_cons, List.length_nil, ne_eq, not_true_eq_false, not_false_eq_true, true_or, or_true, or_false, false_or, and_false, false_and, zf01, zf10, reduceCtorEq, zSw_c, zSw_n, zm_r, zit_T, zit_F, false_implies, true_implies, zc_0, zc_1, zc_2, zc_111, zc_346])
      have kx : ∀ c : Nat, c < 114 → X c = μ c := fun c hc => (hk2 c (Or.inl hc)).trans (hF c (by simp only [List.mem_cons, List.not_mem_nil, or_false]; omega))
      have hCX : CTx X Z F A w := hC.up hC.2.1 (by rw [lgO_c (fun c hc => kx _ (by omega))]; exact hC.2.2.2.1.1) (by rw [kx 2 (by decide)]; exact n5.1) (fun c hc => kx c (by omega)) (by rw [hk2 326 (by decide), hF 326 (by decide)]; exact hC.2.2.2.2.2)
      have hRX : RgC (some l) X := ⟨by rw [hk2 346 (by decide)]; exact hR.1, fun i hi => by rw [hk2 350 (by decide)]; exact hR.2 i hi⟩
      have hv : f_Cl_least [vr 346, vr 2] X = m := by
        show rlF (fun i => owL (X 350 (i : Int)) (X 350 (((i + 1) % (X 346 4).toNat : Nat) : Int)) (dbD X)) 159984 (X 346 4).toNat = m
        rw [hRX.1, Int.toNat_natCast, rlF_A (A := A) (l := l) (fun i hi => by rw [hRX.2 i hi, hRX.2 _ (Nat.mod_lt _ (by omega)), hCX.d.1]; rfl)]
        exact hin.2 _ (by decide)
      rw [hv]
      refine ⟨⟨rfl, rfl, by rw [hRX.1]; omega, hCX.d.2.2.2.1⟩, ?_⟩
      refine zCw.use (q_Cl_lessenAll (d := 8) (by decide) hCX (by omega) (by omega) hRX) (by decide) (fun q X2 e => ?_)
      obtain ⟨rfl, hC2, hf⟩ := e
      refine ⟨rfl, ?_⟩
      refine seD_w (a := μ) (by omega) (by omega) (by rw [hf 354 (by decide), hk2 354 (Or.inr (by decide)), hF 354 (by decide)]; exact hr) (hX.kt (hf.kt (by simp))) (fun q => absurd q (by omega)) (fun _ Y hY hz => ⟨_, rfl, OD.yes (by decide) ?_ ⟨rfl, Y, hY, ?_, ?_, rfl⟩⟩)
      · exact fun i hi => by rw [zm_off _ (by omega), hz i (by simp only [List.mem_cons, List.not_mem_nil, or_false]; omega), hf i (by simp only [List.mem_cons, List.not_mem_nil, or_false]; omega), hk2 i (Or.inr (by omega)), hF i (by simp only [List.mem_cons, List.not_mem_nil, or_false]; omega)]
      · rw [hz 2 (by decide)]
        exact ⟨(lgO_c (fun c hc => hz _ (by simp only [List.mem_cons, List.not_mem_nil, or_false]; omega))).trans hC2.2.2.2.1.1, hC2.2.2.2.1.2⟩
      · exact fun c hc => by rw [hz c (by simp only [List.mem_cons, List.not_mem_nil, or_false]; omega), hf c (by simp only [List.mem_cons, List.not_mem_nil, or_false]; omega), kx c (by omega)]
    · intro μ1 hm
      have hr := hJ.rM h0 h1 hm
      have hu : 0 ≤ μ1 355 28 ∧ μ1 355 28 ≤ 16 := by
        rw [hm 355 (by decide), hJ.2.1.2.1]
        exact hJ.2.1.1.2
      have hM1 := hM.k (μ' := μ1) (hm 357 (by decide))
      refine zCw.use (zSp.ss [vr 355, vx 0] rfl (w_M_clear (d := 100) (by decide)) rfl rfl ?_) (by decide) (fun q μ' e => e)
      (try simp only [zit_e, Bool.and_eq_true, Bool.or_eq_true, Bool.not_eq_true', Bool.and_eq_false_iff, Bool.or_eq_false_iff, Bool.not_eq_false', zbe, zdt, zdf, zb2_p, zbp_0, zbp_1, zbp_inj, zbp_01, Bool.true_eq_false, Bool.false_eq_true, true_and, and_true, Decidable.not_not, Classical.not_not, implies_true, List.nil_append, List.cons_append, List.append_assoc, Option.some.injEq, Sum.inl.injEq, zSw_c, zSw_n]); (try simp only [zit_e, Bool.and_eq_true, Bool.or_eq_true, Bool.not_eq_true', Bool.and_eq_false_iff, Bool.or_eq_false_iff, Bool.not_eq_false', zbe, zdt, zdf, zb2_p, zbp_0, zbp_1, zbp_inj, zbp_01, Bool.true_eq_false, Bool.false_eq_true, true_and, and_true, Decidable.not_not, Classical.not_not, implies_true, List.nil_append, List.cons_append, List.append_assoc, Option.some.injEq, Sum.inl.injEq, zSw_c, zSw_n, zc_355]); (try simp only [zi_cs, zi_c0, zii_cs, zii_c0, zl_cs, zl_c0, zll_cs, zll_c0, zr_cs, zr_c0, zrr_cs, zrr_c0, zxs_cs, zxs_c0, zxx_cs, zxx_c0, zfree_c0, zfree_c1, zfree_cs, zfree_cz, zlong_i, zlong_r, zlong_x, zset_0, zset_s, true_and, and_true, Option.some.injEq, Sum.inl.injEq, Sum.inr.injEq, zb2_p, zbp_0, zbp_1, zbp_inj, zbp_01, Nat.zero_add, Nat.reduceAdd, implies_true, List.nil_append, List.cons_append, List.append_assoc, Int.not_lt, Int.not_le, Decidable.not_not, Int.zero_add, Int.reduceLE, Int.reduceLT, Int.reduceEq, Int.reduceNe, Int.reduceAdd, Int.reduceSub, Int.reduceMul, Int.reduceNeg, Int.reduceToNat, Nat.reduceMul, Nat.reduceLT, Nat.reduceEqDiff, and_self, ite_true, ite_false, zx1, zx2, zRecv, List.length_cons, List.length_nil, ne_eq, not_true_eq_false, not_false_eq_true, true_or, or_true, or_false, false_or, and_false, false_and, zf01, zf10, reduceCtorEq, zSw_c, zSw_n, zm_r, zit_T, zit_F, false_implies, true_implies, zc_355])
      refine zCw.use (sM μ1 hm) (by omega) (fun q μ2 e => ?_)
      obtain ⟨rfl, hF, hL, hR⟩ := e
      refine ⟨rfl, ?_⟩
      have hll := LR_l (by omega) hL
      rw [if_neg (by rw [hR.1.1]; omega)]
      have hin := hin.2.2 (by omega)
      have hM2 := hM1.k (μ' := μ2) (hF.1 357 (by decide))
      have hv : f_M_ringLeast [vr 355] μ2 = m := by
        show rlF (fun i => owL (μ2 380 (i : Int)) (μ2 380 (((i + 1) % (μ2 355 43).toNat : Nat) : Int)) (dbM μ2)) 1000000000 (μ2 355 43).toNat = m
        rw [hR.1.1, Int.toNat_natCast, rlF_A (A := A) (l := l) (fun i hi => by rw [hR.2.2 i hi, hR.2.2 _ (Nat.mod_lt _ (by omega)), hM2.d.1]; rfl)]
        exact hm0
      rw [hv]
      refine ⟨⟨rfl, by rw [hR.1.1]; omega, hM2.d.2.2.2.1⟩, ?_⟩
      have h28 := hF.2 28 (by decide) (by decide)
      refine zCw.use (q_M_keeps (d := 1) (by decide) (by rw [h28]; exact hu)) (by omega) (fun q X e => ?_)
      obtain ⟨rfl, e1, e2, e3, e4⟩ := e
      have x7 := e4 357 (by decide)
      refine ⟨rfl, ?_⟩
      have hRX : RgM (some l) X := ⟨by rw [e3 43 (by decide)]; exact hR.1, by rw [e3 44 (by decide)]; exact hR.2.1, fun i hi => by rw [e4 380 (by decide)]; exact hR.2.2 i hi⟩
      refine zCw.use (q_M_clears (d := 8) (by decide) (hM2.k x7) (by omega) hRX) (by omega) (fun q X2 e => ?_)
      obtain ⟨rfl, hMX, f2, f3⟩ := e
      refine ⟨rfl, ?_⟩
      refine zCw.use (q_M_good (d := 1) (by decide)) (by decide) (fun q Y e => ?_)
      obtain ⟨rfl, rfl⟩ := e
      have hg : zfc [355, 357, 369, 379, 380] μ1 X2 := ((hF.1.tr e4).tr f3).mo (by simp)
      refine ⟨_, rfl, OM.yes (by decide) ((hg.hc (by simp)).sm (by omega)) ⟨rfl, X2, ⟨by rw [f3 355 (by decide)]; exact e2, ?_, fun c h1 h2 h3 h4 => hg c ?_, fun j h1 hj => ?_⟩, hMX.2.2.2.1, fun i hi => ?_, rfl⟩⟩
      · have u1 : unM X2 = unM X := by
          unfold unM rwM
          rw [f3 355 (by decide), f3 369 (by decide)]
        have u2 : unM μ2 = unM μ1 := by
          unfold unM rwM
          rw [h28, hF.1 369 (by decide)]
        rw [u1, e1, u2, hF.1 357 (by decide)]
      · unfold scM at h2
        simp only [List.mem_cons, List.not_mem_nil, or_false]
        omega
      · unfold kfM at h1
        rw [f3 355 (by decide), e3 j hj, hF.2 j (by omega) (by omega)]
      · rw [f2 i hi, x7, hF.1 357 (by decide)])

