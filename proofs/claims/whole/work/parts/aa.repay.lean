/-! repay -/
theorem m_D_payBack : Cond.static y_D_payBack.1 ∈ zTb ∧ Cond.initialized y_D_payBack.1.cls ∈ zTb ∧ Cond.code y_D_payBack.1 y_D_payBack.2.1 y_D_payBack.2.2.1 y_D_payBack.2.2.2 ∈ zTb ∧ (y_D_payBack.1.cls ≠ "java/lang/invoke/MethodHandle" ∧ y_D_payBack.1.cls ≠ "java/lang/invoke/VarHandle" ∧ (parseMethodDescriptor y_D_payBack.1.desc).map (fun d => d.parameters.length) = some 4) ∧ y_D_payBack.2.2.1 ≤ 20 :=
  ⟨(zTb_in 948 (by decide +kernel) (by decide +kernel)), (zTb_in 139 (by decide +kernel) (by decide +kernel)), (zTb_in 949 (by decide +kernel) (by decide +kernel)), by decide +kernel, by decide +kernel⟩
theorem ls_D_276 : zLs "DebtDoors" 276 y_D_payBack 4 := Or.inl ⟨(zTb_in 947 (by decide +kernel) (by decide +kernel)), m_D_payBack⟩
def y_D_repay : zMt := (⟨"DebtDoors", "repay", "(III)I"⟩, prog_1_method_29_code, 4, some .int)
theorem d_D_repay_0 : decode prog_1_method_29_code 0 = .ok (.aload_n 0, 1) := by decide +kernel
theorem d_D_repay_1 : decode prog_1_method_29_code 1 = .ok (.getfield 34, 3) := by decide +kernel
theorem d_D_repay_4 : decode prog_1_method_29_code 4 = .ok (.aload_n 0, 1) := by decide +kernel
theorem d_D_repay_5 : decode prog_1_method_29_code 5 = .ok (.getfield 12, 3) := by decide +kernel
theorem d_D_repay_8 : decode prog_1_method_29_code 8 = .ok (.getfield 115, 3) := by decide +kernel
theorem d_D_repay_11 : decode prog_1_method_29_code 11 = .ok (.invokevirtual 263, 3) := by decide +kernel
theorem d_D_repay_14 : decode prog_1_method_29_code 14 = .ok (.aload_n 0, 1) := by decide +kernel
theorem d_D_repay_15 : decode prog_1_method_29_code 15 = .ok (.iconst 1, 1) := by decide +kernel
theorem d_D_repay_16 : decode prog_1_method_29_code 16 = .ok (.aload_n 0, 1) := by decide +kernel
theorem d_D_repay_17 : decode prog_1_method_29_code 17 = .ok (.getfield 12, 3) := by decide +kernel
theorem d_D_repay_20 : decode prog_1_method_29_code 20 = .ok (.iload_n 1, 1) := by decide +kernel
theorem d_D_repay_21 : decode prog_1_method_29_code 21 = .ok (.iload_n 2, 1) := by decide +kernel
theorem d_D_repay_22 : decode prog_1_method_29_code 22 = .ok (.iload_n 3, 1) := by decide +kernel
theorem d_D_repay_23 : decode prog_1_method_29_code 23 = .ok (.invokestatic 276, 3) := by decide +kernel
theorem d_D_repay_26 : decode prog_1_method_29_code 26 = .ok (.invokevirtual 295, 3) := by decide +kernel
theorem d_D_repay_29 : decode prog_1_method_29_code 29 = .ok (.ireturn, 1) := by decide +kernel
def w_D_repay {d : Nat} (hd : 1 ≤ d) := (show SS ("DebtDoors", prog_1_method_29_code, 4) (some .int) d 0 0 0 0 _ from (sS (p1 := 14) (sV (xVv lv_D_263 (xA (rAr (rAr rA0 (rFr fl_D_34 nk_11_4 (rAn 0 d_D_repay_0 rfl) d_D_repay_1)) (rFr fl_D_115 nk_9_0 (rFr fl_D_12 nk_11_0 (rAn 0 d_D_repay_4 rfl) d_D_repay_5) d_D_repay_8))) (by decide) d_D_repay_11)) (sRi (xV lv_D_295 (xAi (xA (rAi (rAr rA0 (rAn 0 d_D_repay_14 rfl)) (rI d_D_repay_15 rfl))) (xS ls_D_276 (xA (rAi (rAi (rAi (rAr rA0 (rFr fl_D_12 nk_11_0 (rAn 0 d_D_repay_16 rfl) d_D_repay_17)) (rIn 1 d_D_repay_20 rfl)) (rIn 2 d_D_repay_21 rfl)) (rIn 3 d_D_repay_22 rfl))) (by decide) d_D_repay_23)) (by decide) d_D_repay_26) d_D_repay_29 rfl)))
theorem m_M_repaysKept : Cond.instanceMethod y_M_repaysKept.1 ∈ zTb ∧ Cond.selects y_M_repaysKept.1.cls y_M_repaysKept.1 y_M_repaysKept.1 ∈ zTb ∧ Cond.initialized y_M_repaysKept.1.cls ∈ zTb ∧ Cond.code y_M_repaysKept.1 y_M_repaysKept.2.1 y_M_repaysKept.2.2.1 y_M_repaysKept.2.2.2 ∈ zTb ∧ (y_M_repaysKept.1.cls ≠ "java/lang/invoke/MethodHandle" ∧ y_M_repaysKept.1.cls ≠ "java/lang/invoke/VarHandle" ∧ (parseMethodDescriptor y_M_repaysKept.1.desc).map (fun d => d.parameters.length) = some 3) ∧ y_M_repaysKept.2.2.1 ≤ 20 :=
  ⟨(zTb_in 1848 (by decide +kernel) (by decide +kernel)), (List.mem_filter.mpr ⟨List.mem_append_left _ (by decide +kernel), by decide +kernel⟩), (zTb_in 151 (by decide +kernel) (by decide +kernel)), (zTb_in 1849 (by decide +kernel) (by decide +kernel)), by decide +kernel, by decide +kernel⟩
theorem lv_M_384 : zLv "DebtDoorsModel" 384 y_M_repaysKept 3 12 := ⟨⟨(zTb_in 1846 (by decide +kernel) (by decide +kernel)), m_M_repaysKept.1, m_M_repaysKept.2.1, m_M_repaysKept.2.2⟩, _, rfl, rfl⟩
def y_M_repay : zMt := (⟨"DebtDoorsModel", "repay", "(III)I"⟩, prog_14_method_97_code, 4, some .int)
theorem d_M_repay_0 : decode prog_14_method_97_code 0 = .ok (.aload_n 0, 1) := by decide +kernel
theorem d_M_repay_1 : decode prog_14_method_97_code 1 = .ok (.aload_n 0, 1) := by decide +kernel
theorem d_M_repay_2 : decode prog_14_method_97_code 2 = .ok (.iload_n 1, 1) := by decide +kernel
theorem d_M_repay_3 : decode prog_14_method_97_code 3 = .ok (.iload_n 2, 1) := by decide +kernel
theorem d_M_repay_4 : decode prog_14_method_97_code 4 = .ok (.iload_n 3, 1) := by decide +kernel
theorem d_M_repay_5 : decode prog_14_method_97_code 5 = .ok (.invokevirtual 384, 3) := by decide +kernel
theorem d_M_repay_8 : decode prog_14_method_97_code 8 = .ok (.invokevirtual 381, 3) := by decide +kernel
theorem d_M_repay_11 : decode prog_14_method_97_code 11 = .ok (.ireturn, 1) := by decide +kernel
def w_M_repay {d : Nat} (hd : 1 ≤ d) := (show SS ("DebtDoorsModel", prog_14_method_97_code, 4) (some .int) d 0 0 0 0 _ from (sRi (xV lv_M_381 (xAi (xA (rAr rA0 (rAn 0 d_M_repay_0 rfl))) (xV lv_M_384 (xA (rAi (rAi (rAi (rAr rA0 (rAn 0 d_M_repay_1 rfl)) (rIn 1 d_M_repay_2 rfl)) (rIn 2 d_M_repay_3 rfl)) (rIn 3 d_M_repay_4 rfl))) (by decide) d_M_repay_5)) (by decide) d_M_repay_8) d_M_repay_11 rfl))
theorem LC_repay {g t m : Int} : LC y_D_repay y_M_repay [vi g, vi t, vi m] := LC.de (fun k μ Z F A w h0 h1 hJ hC hM => by
  obtain ⟨n1, n2, n3, n4, n5, n6, n7⟩ := hC.n
  obtain ⟨hp, hk⟩ := hC.p
  have hcl : payA Z A g t m = payC (μ 1 6) (μ 3) (dbD μ) g t m := by
    unfold payA
    rw [n2, n3]
    exact (payC_c hC.1.1.2 hp).1.symm
  have hmu : ∀ pu : Int → Int, (∀ i : Int, 0 ≤ i → i < 7 → pu i = puA A i) → 0 ≤ payA Z A g t m → muchC pu A.2.1 g t m = payA Z A g t m := fun pu hpu q => by
    have := payC_0 q
    rw [(payC_c (n := Z.1) (D := A.2.1) (m := m) hC.1.1.2 hpu).2 (by omega)]
    exact this.2.2.2.2.symm
  have hz7 := hC.1.1.2
  have hg : 0 ≤ payA Z A g t m → ((0 ≤ g ∧ g < 7) ∧ 0 ≤ t ∧ t < 7) := fun q => by
    have := payC_0 q
    omega
  have hlow : -6 ≤ payA Z A g t m := by
    unfold payA payC zit
    repeat' split
    all_goals omega
  refine ⟨payA Z A g t m, 1, payA Z A g t m, pdA A g t (payA Z A g t m), ⟨hlow, by decide, by decide⟩, fun hc => ?_, ?_, ?_⟩
  · have := pdA_ok hC.1 hC.2.1 hc
    rw [hmu (puA A) (fun _ _ _ => rfl) hc] at this
    exact this
  · refine zCw.use (zSp.ss [vr 0, vi g, vi t, vi m] rfl (w_D_repay (d := 100) (by decide)) rfl rfl ?_) (by decide) (fun q μ' e => e)
    (try simp only [zit_e, Bool.and_eq_true, Bool.or_eq_true, Bool.not_eq_true', Bool.and_eq_false_iff, Bool.or_eq_false_iff, Bool.not_eq_false', zbe, zdt, zdf, zb2_p, zbp_0, zbp_1, zbp_inj, zbp_01, Bool.true_eq_false, Bool.false_eq_true, true_and, and_true, Decidable.not_not, Classical.not_not, implies_true, List.nil_append, List.cons_append, List.append_assoc, Option.some.injEq, Sum.inl.injEq, zSw_c, zSw_n]); (try simp only [zit_e, Bool.and_eq_true, Bool.or_eq_true, Bool.not_eq_true', Bool.and_eq_false_iff, Bool.or_eq_false_iff, Bool.not_eq_false', zbe, zdt, zdf, zb2_p, zbp_0, zbp_1, zbp_inj, zbp_01, Bool.true_eq_false, Bool.false_eq_true, true_and, and_true, Decidable.not_not, Classical.not_not, implies_true, List.nil_append, List.cons_append, List.append_assoc, Option.some.injEq, Sum.inl.injEq, zSw_c, zSw_n, zc_0, zc_1, zc_2, zc_111]); (try simp only [zi_cs, zi_c0, zii_cs, zii_c0, zl_cs, zl_c0, zll_cs, zll_c0, zr_cs, zr_c0, zrr_cs, zrr_c0, zxs_cs, zxs_c0, zxx_cs, zxx_c0, zfree_c0, zfree_c1, zfree_cs, zfree_cz, zlong_i, zlong_r, zlong_x, zset_0, zset_s, true_and, and_true, Option.some.injEq, Sum.inl.injEq, Sum.inr.injEq, zb2_p, zbp_0, zbp_1, zbp_inj, zbp_01, Nat.zero_add, Nat.reduceAdd, implies_true, List.nil_append, List.cons_append, List.append_assoc, Int.not_lt, Int.not_le, Decidable.not_not, Int.zero_add, Int.reduceLE, Int.reduceLT, Int.reduceEq, Int.reduceNe, Int.reduceAdd, Int.reduceSub, Int.reduceMul, Int.reduceNeg, Int.reduceToNat, Nat.reduceMul, Nat.reduceLT, Nat.reduceEqDiff, and_self, ite_true, ite_false, zx1, zx2, zRecv, List.length_cons, List.length_nil, ne_eq, not_true_eq_false, not_false_eq_true, true_or, or_true, or_false, false_or, and_false, false_and, zf01, zf10, reduceCtorEq, zSw_c, zSw_n, zm_r, zit_T, zit_F, false_implies, true_implies, zc_0, zc_1, zc_2, zc_111])
    refine hoC_w (by omega) hJ.2.1.so n5 (fun X hX hk2 => ?_)
    have k1 := hk2 1 (Or.inl (by decide))
    have k2 := hk2 2 (Or.inl (by decide))
    have k3 := hk2 3 (Or.inl (by decide))
    have kD : dbD X = dbD μ := dbD_c (fun c hc => hk2 c (by omega)) (by rw [k2])
    have kT : okT (X 2 5) (fD X) := by
      have := hJ.1.2.2.2.1.1
      have e : fD X = fD μ := by
        funext j
        unfold fD
        rw [hk2 4 (by decide), hk2 5 (by decide), hk2 6 (by decide), hk2 7 (by decide)]
      rw [k2, e]
      exact this
    refine ⟨rfl, ?_⟩
    (try simp only [zit_e, Bool.and_eq_true, Bool.or_eq_true, Bool.not_eq_true', Bool.and_eq_false_iff, Bool.or_eq_false_iff, Bool.not_eq_false', zbe, zdt, zdf, zb2_p, zbp_0, zbp_1, zbp_inj, zbp_01, Bool.true_eq_false, Bool.false_eq_true, true_and, and_true, Decidable.not_not, Classical.not_not, implies_true, List.nil_append, List.cons_append, List.append_assoc, Option.some.injEq, Sum.inl.injEq, zSw_c, zSw_n]); (try simp only [zit_e, Bool.and_eq_true, Bool.or_eq_true, Bool.not_eq_true', Bool.and_eq_false_iff, Bool.or_eq_false_iff, Bool.not_eq_false', zbe, zdt, zdf, zb2_p, zbp_0, zbp_1, zbp_inj, zbp_01, Bool.true_eq_false, Bool.false_eq_true, true_and, and_true, Decidable.not_not, Classical.not_not, implies_true, List.nil_append, List.cons_append, List.append_assoc, Option.some.injEq, Sum.inl.injEq, zSw_c, zSw_n, zc_0, zc_1, zc_2, zc_111]); (try simp only [zi_cs, zi_c0, zii_cs, zii_c0, zl_cs, zl_c0, zll_cs, zll_c0, zr_cs, zr_c0, zrr_cs, zrr_c0, zxs_cs, zxs_c0, zxx_cs, zxx_c0, zfree_c0, zfree_c1, zfree_cs, zfree_cz, zlong_i, zlong_r, zlong_x, zset_0, zset_s, true_and, and_true, Option.some.injEq, Sum.inl.injEq, Sum.inr.injEq, zb2_p, zbp_0, zbp_1, zbp_inj, zbp_01, Nat.zero_add, Nat.reduceAdd, implies_true, List.nil_append, List.cons_append, List.append_assoc, Int.not_lt, Int.not_le, Decidable.not_not, Int.zero_add, Int.reduceLE, Int.reduceLT, Int.reduceEq, Int.reduceNe, Int.reduceAdd, Int.reduceSub, Int.reduceMul, Int.reduceNeg, Int.reduceToNat, Nat.reduceMul, Nat.reduceLT, Nat.reduceEqDiff, and_self, ite_true, ite_false, zx1, zx2, zRecv, List.length_cons, List.length_nil, ne_eq, not_true_eq_false, not_false_eq_true, true_or, or_true, or_false, false_or, and_false, false_and, zf01, zf10, reduceCtorEq, zSw_c, zSw_n, zm_r, zit_T, zit_F, false_implies, true_implies, zc_0, zc_1, zc_2, zc_111])
    refine zCw.use (q_D_payBack (d := 5) (by decide) (by rw [k1]; exact n1) (by rw [k3]; exact hk) kT) (by decide) (fun q X2 e => ?_)
    rw [k1, k2, k3, kD, ← hcl, n3] at e
    obtain ⟨rfl, e1, e2⟩ := e
    refine ⟨_, rfl, ?_⟩
    have hr := hJ.rD h0 h1
    have hs := hJ.2.1.so
    have hm1 := hmu (μ 3) hp
    generalize hcc : payA Z A g t m = c at *
    by_cases cc : c < 0
    · obtain rfl := e1 cc
      refine seD_w (by omega) hlow (by rw [hk2 354 (Or.inr (by decide))]; exact hr) hX (fun _ => ⟨_, rfl, OD.no rfl cc (PJc.hold (fun _ => hX.1) (fun i hi => hk2 i (by omega)) hX.2.1 (hk2 111 (Or.inl (by decide))))⟩) (fun q => absurd cc (by omega))
    · have hm1 := hm1 (by omega)
      obtain ⟨f1, f2, f3, f4, f5, f6, f7⟩ := e2 (by omega)
      rw [hm1] at f2 f3 f4
      refine seD_w (a := μ) (by omega) hlow (by rw [f7 354 (by decide), hk2 354 (Or.inr (by decide))]; exact hr) (hX.kt (f7.kt (by simp))) (fun q => absurd q (by omega)) (fun _ Y hY hz => ⟨_, rfl, OD.yes (by omega) ?_ ⟨rfl, Y, hY, ?_, ?_, rfl⟩⟩)
      · exact fun i hi => by rw [zm_off _ (by omega), hz i (by simp only [List.mem_cons, List.not_mem_nil, or_false]; omega), f7 i (by simp only [List.mem_cons, List.not_mem_nil, or_false]; omega), hk2 i (Or.inr (by omega))]
      · rw [hz 2 (by decide)]
        refine ⟨lgO_is ?_ ?_ ?_, f5.1⟩
        · rw [hz 3 (by decide), f3]
          refine mvP_e (p := μ 3) hp (hg (by omega)) (fun j _ _ => ?_)
          simp only [zm_r, zit_T, k3]
        · rw [dbD_c (fun c hc => hz c (by simp only [List.mem_cons, List.not_mem_nil, or_false]; omega)) (by rw [hz 2 (by decide)]), f4]
          rfl
        · rw [hz 2 (by decide), f6, n4]
          rfl
      · exact fun c hc => by rw [hz c (by simp only [List.mem_cons, List.not_mem_nil, or_false]; omega), f7 c (by simp only [List.mem_cons, List.not_mem_nil, or_false]; omega), hk2 c (by omega)]
  · intro μ1 hm
    have hM := hM.k (hm 357 (by decide))
    obtain ⟨n1, n2, n3, n4, n5, n6, n7⟩ := hM.n
    obtain ⟨hp, hk⟩ := hM.p
    have hcl : payA Z A g t m = payC (μ1 357 152) (μ1 357) (dbM μ1) g t m := by
      unfold payA
      rw [n2, n3]
      exact (payC_c hC.1.1.2 hp).1.symm
    have hr := hJ.rM h0 h1 hm
    have hu : 0 ≤ μ1 355 28 ∧ μ1 355 28 ≤ 16 := by
      rw [hm 355 (by decide), hJ.2.1.2.1]
      exact hJ.2.1.1.2
    refine zCw.use (zSp.ss [vr 355, vi g, vi t, vi m] rfl (w_M_repay (d := 100) (by decide)) rfl rfl ?_) (by decide) (fun q μ' e => e)
    (try simp only [zit_e, Bool.and_eq_true, Bool.or_eq_true, Bool.not_eq_true', Bool.and_eq_false_iff, Bool.or_eq_false_iff, Bool.not_eq_false', zbe, zdt, zdf, zb2_p, zbp_0, zbp_1, zbp_inj, zbp_01, Bool.true_eq_false, Bool.false_eq_true, true_and, and_true, Decidable.not_not, Classical.not_not, implies_true, List.nil_append, List.cons_append, List.append_assoc, Option.some.injEq, Sum.inl.injEq, zSw_c, zSw_n]); (try simp only [zit_e, Bool.and_eq_true, Bool.or_eq_true, Bool.not_eq_true', Bool.and_eq_false_iff, Bool.or_eq_false_iff, Bool.not_eq_false', zbe, zdt, zdf, zb2_p, zbp_0, zbp_1, zbp_inj, zbp_01, Bool.true_eq_false, Bool.false_eq_true, true_and, and_true, Decidable.not_not, Classical.not_not, implies_true, List.nil_append, List.cons_append, List.append_assoc, Option.some.injEq, Sum.inl.injEq, zSw_c, zSw_n, zc_355]); (try simp only [zi_cs, zi_c0, zii_cs, zii_c0, zl_cs, zl_c0, zll_cs, zll_c0, zr_cs, zr_c0, zrr_cs, zrr_c0, zxs_cs, zxs_c0, zxx_cs, zxx_c0, zfree_c0, zfree_c1, zfree_cs, zfree_cz, zlong_i, zlong_r, zlong_x, zset_0, zset_s, true_and, and_true, Option.some.injEq, Sum.inl.injEq, Sum.inr.injEq, zb2_p, zbp_0, zbp_1, zbp_inj, zbp_01, Nat.zero_add, Nat.reduceAdd, implies_true, List.nil_append, List.cons_append, List.append_assoc, Int.not_lt, Int.not_le, Decidable.not_not, Int.zero_add, Int.reduceLE, Int.reduceLT, Int.reduceEq, Int.reduceNe, Int.reduceAdd, Int.reduceSub, Int.reduceMul, Int.reduceNeg, Int.reduceToNat, Nat.reduceMul, Nat.reduceLT, Nat.reduceEqDiff, and_self, ite_true, ite_false, zx1, zx2, zRecv, List.length_cons, List.length_nil, ne_eq, not_true_eq_false, not_false_eq_true, true_or, or_true, or_false, false_or, and_false, false_and, zf01, zf10, reduceCtorEq, zSw_c, zSw_n, zm_r, zit_T, zit_F, false_implies, true_implies, zc_355])
    refine zCw.use (q_M_repaysKept (d := 5) (by decide) n1 hk hM.d.2.2.2.1 hu) (by decide) (fun q X e => ?_)
    rw [← hcl, n3] at e
    obtain ⟨rfl, e1, e2⟩ := e
    refine ⟨_, rfl, ?_⟩
    have hm1 := hmu (μ1 357) hp
    generalize hcc : payA Z A g t m = c at *
    by_cases cc : c < 0
    · obtain rfl := e1 cc
      exact goM_w (by omega) hlow hr (fun _ => ⟨_, rfl, OM.no rfl cc PJm.rf⟩) (fun q => absurd q (by omega))
    · have hm1 := hm1 (by omega)
      obtain ⟨f1, f9, f2, f3, f4, f5, f6, f7, f8⟩ := e2 (by omega)
      rw [hm1] at f5
      refine goM_w (by omega) hlow (by rw [f8 356 (by decide)]; exact hr) (fun q => absurd q (by omega)) (fun _ => ⟨_, rfl, OM.yes (by omega) ?_ ⟨rfl, X, ⟨f3, f2, fun c _ _ _ _ => f8 c (by simp only [List.mem_cons, List.not_mem_nil, or_false]; omega), fun j _ hj => f4 j hj⟩, ⟨lgM_is ?_ ?_ ?_, f6.1⟩, fun i hi => ?_, rfl⟩⟩)
      · exact (f8.hc (by simp)).sm (by omega)
      · refine mvP_e (p := μ1 357) hp (hg (by omega)) (fun j _ _ => ?_)
        rw [f7 j (by omega), hm1]
      · rw [f5]
        rfl
      · rw [f7 72 (by decide), zit_f (by omega), zit_f (by omega), n4]
        rfl
      · rw [f7 i (by omega), zit_f (by omega), zit_f (by omega)])

