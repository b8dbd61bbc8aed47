/-! await -/
theorem q_D_nextDay0 {d : Nat} (hd : 8 ≤ d) {μ : zMem} (h : 999 ≤ μ 2 6) : zSp d 0 0 y_D_nextDay zT0 [vr 1, vr 324] μ zT0 (fun r μ' => r = some (vi (-3)) ∧ μ' = μ) := by
  refine zSp.ss [vr 1, vr 324, vx 0, vx 0, vx 0, vx 0] rfl (w_D_nextDay (Nat.le_trans (by decide) hd)) rfl rfl ?_
  (try simp only [zit_e, Bool.and_eq_true, Bool.or_eq_true, Bool.not_eq_true', Bool.and_eq_false_iff, Bool.or_eq_false_iff, Bool.not_eq_false', zbe, zdt, zdf, zb2_p, zbp_0, zbp_1, zbp_inj, zbp_01, Bool.true_eq_false, Bool.false_eq_true, true_and, and_true, Decidable.not_not, Classical.not_not, implies_true, List.nil_append, List.cons_append, List.append_assoc, Option.some.injEq, Sum.inl.injEq, zSw_c, zSw_n]); (try simp only [zit_e, Bool.and_eq_true, Bool.or_eq_true, Bool.not_eq_true', Bool.and_eq_false_iff, Bool.or_eq_false_iff, Bool.not_eq_false', zbe, zdt, zdf, zb2_p, zbp_0, zbp_1, zbp_inj, zbp_01, Bool.true_eq_false, Bool.false_eq_true, true_and, and_true, Decidable.not_not, Classical.not_not, implies_true, List.nil_append, List.cons_append, List.append_assoc, Option.some.injEq, Sum.inl.injEq, zSw_c, zSw_n, zc_1, zc_2, zc_324]); (try simp only [zi_cs, zi_c0, zii_cs, zii_c0, zl_cs, zl_c0, zll_cs, zll_c0, zr_cs, zr_c0, zrr_cs, zrr_c0, zxs_cs, zxs_c0, zxx_cs, zxx_c0, zfree_c0, zfree_c1, zfree_cs, zfree_cz, zlong_i, zlong_r, zlong_x, zset_0, zset_s, true_and, and_true, Option.some.injEq, Sum.inl.injEq, Sum.inr.injEq, zb2_p, zbp_0, zbp_1, zbp_inj, zbp_01, Nat.zero_add, Nat.reduceAdd, implies_true, List.nil_append, List.cons_append, List.append_assoc, Int.not_lt, Int.not_le, Decidable.not_not, Int.zero_add, Int.reduceLE, Int.reduceLT, Int.reduceEq, Int.reduceNe, Int.reduceAdd, Int.reduceSub, Int.reduceMul, Int.reduceNeg, Int.reduceToNat, Nat.reduceMul, Nat.reduceLT, Nat.reduceEqDiff, and_self, ite_true, ite_false, zx1, zx2, zRecv, List.length_cons, List.length_nil, ne_eq, not_true_eq_false, not_false_eq_true, true_or, or_true, or_false, false_or, and_false, false_and, zf01, zf10, reduceCtorEq, zSw_c, zSw_n, zm_r, zit_T, zit_F, false_implies, true_implies, zc_1, zc_2, zc_324])
  exact zif (fun _ => trivial) (fun c => absurd h c)
theorem q_M_waitsKept {d : Nat} (hd : 52 ≤ d) {μ : zMem} {Z : Zt} {F : Option (List Cls)} {A : Lg} {w : Int → Int} (h : MTx μ Z F A w) (hu : 0 ≤ μ 355 28 ∧ μ 355 28 ≤ 16) : zSp d 0 0 y_M_waitsKept zT0 [vr 355] μ zT0 (fun r μ' => (999 ≤ A.2.2 → r = some (vi (-3)) ∧ μ' = μ) ∧ (A.2.2 < 999 → r = some (vi (grw Z F w A A.2.1.length).2) ∧ MTx μ' Z F (grw Z F w A A.2.1.length).1 w ∧ (∀ i : Int, 73 ≤ i → μ' 357 i = μ 357 i) ∧ DdM 4 μ μ' ∧ zfc [355, 357, 367, 369] μ μ')) := by
  obtain ⟨n1, n2, n3, n4, n5, n6, n7⟩ := h.n
  refine zSp.ss [vr 355] rfl (w_M_waitsKept (Nat.le_trans (by decide) hd)) rfl rfl ?_
  (try simp only [zit_e, Bool.and_eq_true, Bool.or_eq_true, Bool.not_eq_true', Bool.and_eq_false_iff, Bool.or_eq_false_iff, Bool.not_eq_false', zbe, zdt, zdf, zb2_p, zbp_0, zbp_1, zbp_inj, zbp_01, Bool.true_eq_false, Bool.false_eq_true, true_and, and_true, Decidable.not_not, Classical.not_not, implies_true, List.nil_append, List.cons_append, List.append_assoc, Option.some.injEq, Sum.inl.injEq, zSw_c, zSw_n]); (try simp only [zit_e, Bool.and_eq_true, Bool.or_eq_true, Bool.not_eq_true', Bool.and_eq_false_iff, Bool.or_eq_false_iff, Bool.not_eq_false', zbe, zdt, zdf, zb2_p, zbp_0, zbp_1, zbp_inj, zbp_01, Bool.true_eq_false, Bool.false_eq_true, true_and, and_true, Decidable.not_not, Classical.not_not, implies_true, List.nil_append, List.cons_append, List.append_assoc, Option.some.injEq, Sum.inl.injEq, zSw_c, zSw_n, zc_355]); (try simp only [zi_cs, zi_c0, zii_cs, zii_c0, zl_cs, zl_c0, zll_cs, zll_c0, zr_cs, zr_c0, zrr_cs, zrr_c0, zxs_cs, zxs_c0, zxx_cs, zxx_c0, zfree_c0, zfree_c1, zfree_cs, zfree_cz, zlong_i, zlong_r, zlong_x, zset_0, zset_s, true_and, and_true, Option.some.injEq, Sum.inl.injEq, Sum.inr.injEq, zb2_p, zbp_0, zbp_1, zbp_inj, zbp_01, Nat.zero_add, Nat.reduceAdd, implies_true, List.nil_append, List.cons_append, List.append_assoc, Int.not_lt, Int.not_le, Decidable.not_not, Int.zero_add, Int.reduceLE, Int.reduceLT, Int.reduceEq, Int.reduceNe, Int.reduceAdd, Int.reduceSub, Int.reduceMul, Int.reduceNeg, Int.reduceToNat, Nat.reduceMul, Nat.reduceLT, Nat.reduceEqDiff, and_self, ite_true, ite_false, zx1, zx2, zRecv, List.length_cons, List.length_nil, ne_eq, not_true_eq_false, not_false_eq_true, true_or, or_true, or_false, false_or, and_false, false_and, zf01, zf10, reduceCtorEq, zSw_c, zSw_n, zm_r, zit_T, zit_F, false_implies, true_implies, zc_355])
  rw [n4]
  have hda := h.2.1.2.2
  refine zif (fun c => fun c2 => absurd c (by omega)) (fun c => ?_)
  refine zCw.use (q_M_keeps (d := 1) (by decide) hu) (by omega) (fun q X e => ?_)
  obtain ⟨rfl, e1, e2, e3, e4⟩ := e
  have k7 := e4 357 (by decide)
  refine ⟨rfl, ?_⟩
  refine zCw.use (q_M_waits (d := 50) (by decide) (h.k k7) (by omega)) (by omega) (fun q Y e => ?_)
  obtain ⟨rfl, f1, f2, f3, f4⟩ := e
  have hg : zfc [355, 357, 367, 369] μ Y := (e4.tr f4).mo (by simp)
  have h28 := f3 28 (by decide) (by decide) (by decide) (by decide)
  refine ⟨_, rfl, fun q => absurd q (by omega), fun _ => ⟨rfl, f1, fun i hi => by rw [f2 i hi, k7], ⟨by rw [h28]; exact e2, ?_, fun c h1 h2 h3 h4 => hg c ?_, fun j h1 hj => ?_⟩, hg⟩⟩
  · rw [← e1]
    unfold unM rwM
    rw [h28, f4 369 (by decide)]
  · unfold scM at h2
    simp only [List.mem_cons, List.not_mem_nil, or_false]
    omega
  · unfold kfM at h1
    rw [f3 j (by omega) (by omega) (by omega) (by omega), e3 j hj]
theorem m_D_nextDay : Cond.static y_D_nextDay.1 ∈ zTb ∧ Cond.initialized y_D_nextDay.1.cls ∈ zTb ∧ Cond.code y_D_nextDay.1 y_D_nextDay.2.1 y_D_nextDay.2.2.1 y_D_nextDay.2.2.2 ∈ zTb ∧ (y_D_nextDay.1.cls ≠ "java/lang/invoke/MethodHandle" ∧ y_D_nextDay.1.cls ≠ "java/lang/invoke/VarHandle" ∧ (parseMethodDescriptor y_D_nextDay.1.desc).map (fun d => d.parameters.length) = some 2) ∧ y_D_nextDay.2.2.1 ≤ 20 :=
  ⟨(zTb_in 941 (by decide +kernel) (by decide +kernel)), (zTb_in 139 (by decide +kernel) (by decide +kernel)), (zTb_in 942 (by decide +kernel) (by decide +kernel)), by decide +kernel, by decide +kernel⟩
theorem ls_D_266 : zLs "DebtDoors" 266 y_D_nextDay 2 := Or.inl ⟨(zTb_in 940 (by decide +kernel) (by decide +kernel)), m_D_nextDay⟩
def y_D_await : zMt := (⟨"DebtDoors", "await", "()I"⟩, prog_1_method_32_code, 1, some .int)
theorem d_D_await_0 : decode prog_1_method_32_code 0 = .ok (.aload_n 0, 1) := by decide +kernel
theorem d_D_await_1 : decode prog_1_method_32_code 1 = .ok (.getfield 34, 3) := by decide +kernel
theorem d_D_await_4 : decode prog_1_method_32_code 4 = .ok (.aload_n 0, 1) := by decide +kernel
theorem d_D_await_5 : decode prog_1_method_32_code 5 = .ok (.getfield 12, 3) := by decide +kernel
theorem d_D_await_8 : decode prog_1_method_32_code 8 = .ok (.getfield 115, 3) := by decide +kernel
theorem d_D_await_11 : decode prog_1_method_32_code 11 = .ok (.invokevirtual 263, 3) := by decide +kernel
theorem d_D_await_14 : decode prog_1_method_32_code 14 = .ok (.aload_n 0, 1) := by decide +kernel
theorem d_D_await_15 : decode prog_1_method_32_code 15 = .ok (.iconst 4, 1) := by decide +kernel
theorem d_D_await_16 : decode prog_1_method_32_code 16 = .ok (.aload_n 0, 1) := by decide +kernel
theorem d_D_await_17 : decode prog_1_method_32_code 17 = .ok (.getfield 12, 3) := by decide +kernel
theorem d_D_await_20 : decode prog_1_method_32_code 20 = .ok (.aload_n 0, 1) := by decide +kernel
theorem d_D_await_21 : decode prog_1_method_32_code 21 = .ok (.getfield 51, 3) := by decide +kernel
theorem d_D_await_24 : decode prog_1_method_32_code 24 = .ok (.invokestatic 266, 3) := by decide +kernel
theorem d_D_await_27 : decode prog_1_method_32_code 27 = .ok (.invokevirtual 295, 3) := by decide +kernel
theorem d_D_await_30 : decode prog_1_method_32_code 30 = .ok (.ireturn, 1) := by decide +kernel
def w_D_await {d : Nat} (hd : 1 ≤ d) := (show SS ("DebtDoors", prog_1_method_32_code, 1) (some .int) d 0 0 0 0 _ from (sS (p1 := 14) (sV (xVv lv_D_263 (xA (rAr (rAr rA0 (rFr fl_D_34 nk_11_4 (rAn 0 d_D_await_0 rfl) d_D_await_1)) (rFr fl_D_115 nk_9_0 (rFr fl_D_12 nk_11_0 (rAn 0 d_D_await_4 rfl) d_D_await_5) d_D_await_8))) (by decide) d_D_await_11)) (sRi (xV lv_D_295 (xAi (xA (rAi (rAr rA0 (rAn 0 d_D_await_14 rfl)) (rI d_D_await_15 rfl))) (xS ls_D_266 (xA (rAr (rAr rA0 (rFr fl_D_12 nk_11_0 (rAn 0 d_D_await_16 rfl) d_D_await_17)) (rFr fl_D_51 nk_11_7 (rAn 0 d_D_await_20 rfl) d_D_await_21))) (by decide) d_D_await_24)) (by decide) d_D_await_27) d_D_await_30 rfl)))
theorem m_M_waitsKept : Cond.instanceMethod y_M_waitsKept.1 ∈ zTb ∧ Cond.selects y_M_waitsKept.1.cls y_M_waitsKept.1 y_M_waitsKept.1 ∈ zTb ∧ Cond.initialized y_M_waitsKept.1.cls ∈ zTb ∧ Cond.code y_M_waitsKept.1 y_M_waitsKept.2.1 y_M_waitsKept.2.2.1 y_M_waitsKept.2.2.2 ∈ zTb ∧ (y_M_waitsKept.1.cls ≠ "java/lang/invoke/MethodHandle" ∧ y_M_waitsKept.1.cls ≠ "java/lang/invoke/VarHandle" ∧ (parseMethodDescriptor y_M_waitsKept.1.desc).map (fun d => d.parameters.length) = some 0) ∧ y_M_waitsKept.2.2.1 ≤ 20 :=
  ⟨(zTb_in 1872 (by decide +kernel) (by decide +kernel)), (List.mem_filter.mpr ⟨List.mem_append_left _ (by decide +kernel), by decide +kernel⟩), (zTb_in 151 (by decide +kernel) (by decide +kernel)), (zTb_in 1873 (by decide +kernel) (by decide +kernel)), by decide +kernel, by decide +kernel⟩
theorem lv_M_387 : zLv "DebtDoorsModel" 387 y_M_waitsKept 0 12 := ⟨⟨(zTb_in 1870 (by decide +kernel) (by decide +kernel)), m_M_waitsKept.1, m_M_waitsKept.2.1, m_M_waitsKept.2.2⟩, _, rfl, rfl⟩
def y_M_await : zMt := (⟨"DebtDoorsModel", "await", "()I"⟩, prog_14_method_98_code, 1, some .int)
theorem d_M_await_0 : decode prog_14_method_98_code 0 = .ok (.aload_n 0, 1) := by decide +kernel
theorem d_M_await_1 : decode prog_14_method_98_code 1 = .ok (.aload_n 0, 1) := by decide +kernel
theorem d_M_await_2 : decode prog_14_method_98_code 2 = .ok (.invokevirtual 387, 3) := by decide +kernel
theorem d_M_await_5 : decode prog_14_method_98_code 5 = .ok (.invokevirtual 381, 3) := by decide +kernel
theorem d_M_await_8 : decode prog_14_method_98_code 8 = .ok (.ireturn, 1) := by decide +kernel
def w_M_await {d : Nat} (hd : 1 ≤ d) := (show SS ("DebtDoorsModel", prog_14_method_98_code, 1) (some .int) d 0 0 0 0 _ from (sRi (xV lv_M_381 (xAi (xA (rAr rA0 (rAn 0 d_M_await_0 rfl))) (xV lv_M_387 (xA (rAr rA0 (rAn 0 d_M_await_1 rfl))) (by decide) d_M_await_2)) (by decide) d_M_await_5) d_M_await_8 rfl))
theorem LC_await : LC y_D_await y_M_await [] := LC.de (fun k μ Z F A w h0 h1 hJ hC hM => by
  obtain ⟨n1, n2, n3, n4, n5, n6, n7⟩ := hC.n
  have hr := hJ.rD h0 h1
  have hdA := hC.2.1.2.2
  refine ⟨zit (A.2.2 < 999) 0 (-3), 4, (grw Z F w A A.2.1.length).2, (grw Z F w A A.2.1.length).1, ⟨by unfold zit; split <;> omega, by decide, by decide⟩, fun hc => ?_, ?_, ?_⟩
  · unfold zit at hc
    split at hc
    · next c => exact (grw_ok hC.2.1 c _ (Int.le_refl _)).1
    · omega
  · refine zCw.use (zSp.ss [vr 0] rfl (w_D_await (d := 100) (by decide)) rfl rfl ?_) (by decide) (fun q μ' e => e)
    (try simp only [zit_e, Bool.and_eq_true, Bool.or_eq_true, Bool.not_eq_true', Bool.and_eq_false_iff, Bool.or_eq_false_iff, Bool.not_eq_false', zbe, zdt, zdf, zb2_p, zbp_0, zbp_1, zbp_inj, zbp_01, Bool.true_eq_false, Bool.false_eq_true, true_and, and_true, Decidable.not_not, Classical.not_not, implies_true, List.nil_append, List.cons_append, List.append_assoc, Option.some.injEq, Sum.inl.injEq, zSw_c, zSw_n]); (try simp only [zit_e, Bool.and_eq_true, Bool.or_eq_true, Bool.not_eq_true', Bool.and_eq_false_iff, Bool.or_eq_false_iff, Bool.not_eq_false', zbe, zdt, zdf, zb2_p, zbp_0, zbp_1, zbp_inj, zbp_01, Bool.true_eq_false, Bool.false_eq_true, true_and, and_true, Decidable.not_not, Classical.not_not, implies_true, List.nil_append, List.cons_append, List.append_assoc, Option.some.injEq, Sum.inl.injEq, zSw_c, zSw_n, zc_0, zc_1, zc_2, zc_111, zc_324]); (try simp only [zi_cs, zi_c0, zii_cs, zii_c0, zl_cs, zl_c0, zll_cs, zll_c0, zr_cs, zr_c0, zrr_cs, zrr_c0, zxs_cs, zxs_c0, zxx_cs, zxx_c0, zfree_c0, zfree_c1, zfree_cs, zfree_cz, zlong_i, zlong_r, zlong_x, zset_0, zset_s, true_and, and_true, Option.some.injEq, Sum.inl.injEq, Sum.inr.injEq, zb2_p, zbp_0, zbp_1, zbp_inj, zbp_01, Nat.zero_add, Nat.reduceAdd, implies_true, List.nil_append, List.cons_append, List.append_assoc, Int.not_lt, Int.not_le, Decidable.not_not, Int.zero_add, Int.reduceLE, Int.reduceLT, Int.reduceEq, Int.reduceNe, Int.reduceAdd, Int.reduceSub, Int.reduceMul, Int.reduceNeg, Int.reduceToNat, Nat.reduceMul, Nat.reduceLT, Nat.reduceEqDiff, and_self, ite_true, ite_false, zx1, zx2, zRecv, List.length_cons, List.length_nil, ne_eq, not_true_eq_false, not_false_eq_true, true_or, or_true, or_false, false_or, and_false, false_and, zf01, zf10, reduceCtorEq, zSw_c, zSw_n, zm_r, zit_T, zit_F, false_implies, true_implies, zc_0, zc_1, zc_2, zc_111, zc_324])
    refine hoC_w (by omega) hJ.2.1.so n5 (fun X hX hk2 => ?_)
    have hCX : CTx X Z F A w := hC.up hC.2.1 (by rw [lgO_c (fun c hc => hk2 _ (by omega))]; exact hC.2.2.2.1.1) (by rw [hk2 2 (by decide)]; exact n5.1) (fun c hc => hk2 c (by omega)) (by rw [hk2 326 (by decide)]; exact hC.2.2.2.2.2)
    refine ⟨rfl, ?_⟩
    (try simp only [zit_e, Bool.and_eq_true, Bool.or_eq_true, Bool.not_eq_true', Bool.and_eq_false_iff, Bool.or_eq_false_iff, Bool.not_eq_false', zbe, zdt, zdf, zb2_p, zbp_0, zbp_1, zbp_inj, zbp_01, Bool.true_eq_false, Bool.false_eq_true, true_and, and_true, Decidable.not_not, Classical.not_not, implies_true, List.nil_append, List.cons_append, List.append_assoc, Option.some.injEq, Sum.inl.injEq, zSw_c, zSw_n]); (try simp only [zit_e, Bool.and_eq_true, Bool.or_eq_true, Bool.not_eq_true', Bool.and_eq_false_iff, Bool.or_eq_false_iff, Bool.not_eq_false', zbe, zdt, zdf, zb2_p, zbp_0, zbp_1, zbp_inj, zbp_01, Bool.true_eq_false, Bool.false_eq_true, true_and, and_true, Decidable.not_not, Classical.not_not, implies_true, List.nil_append, List.cons_append, List.append_assoc, Option.some.injEq, Sum.inl.injEq, zSw_c, zSw_n, zc_0, zc_1, zc_2, zc_111, zc_324]); (try simp only [zi_cs, zi_c0, zii_cs, zii_c0, zl_cs, zl_c0, zll_cs, zll_c0, zr_cs, zr_c0, zrr_cs, zrr_c0, zxs_cs, zxs_c0, zxx_cs, zxx_c0, zfree_c0, zfree_c1, zfree_cs, zfree_cz, zlong_i, zlong_r, zlong_x, zset_0, zset_s, true_and, and_true, Option.some.injEq, Sum.inl.injEq, Sum.inr.injEq, zb2_p, zbp_0, zbp_1, zbp_inj, zbp_01, Nat.zero_add, Nat.reduceAdd, implies_true, List.nil_append, List.cons_append, List.append_assoc, Int.not_lt, Int.not_le, Decidable.not_not, Int.zero_add, Int.reduceLE, Int.reduceLT, Int.reduceEq, Int.reduceNe, Int.reduceAdd, Int.reduceSub, Int.reduceMul, Int.reduceNeg, Int.reduceToNat, Nat.reduceMul, Nat.reduceLT, Nat.reduceEqDiff, and_self, ite_true, ite_false, zx1, zx2, zRecv, List.length_cons, List.length_nil, ne_eq, not_true_eq_false, not_false_eq_true, true_or, or_true, or_false, false_or, and_false, false_and, zf01, zf10, reduceCtorEq, zSw_c, zSw_n, zm_r, zit_T, zit_F, false_implies, true_implies, zc_0, zc_1, zc_2, zc_111, zc_324])
    have hrX : okR (X 354) := by rw [hk2 354 (Or.inr (by decide))]; exact hr
    by_cases c : A.2.2 < 999
    · rw [zit_t c]
      have hgr := grw_ok (Z := Z) (F := F) (w := w) hC.2.1 c _ (Int.le_refl _)
      refine zCw.use (q_D_nextDay (d := 8) (by decide) hCX c) (by decide) (fun q X2 e => ?_)
      obtain ⟨rfl, hC2, hf⟩ := e
      refine ⟨_, rfl, ?_⟩
      have hcf : KCt X X2 := by
        refine ⟨fun k p q r s t u => hf k ?_, fun j _ _ => by rw [hf 0 (by decide)], ⟨by rw [hf 321 (by decide)], by rw [hf 321 (by decide)]⟩, by rw [hf 351 (by decide)], fun _ => hC2.2.2.2.2.2.2⟩
        unfold scC at r
        simp only [List.mem_cons, List.not_mem_nil, or_false]
        omega
      refine seD_w (a := μ) (by omega) (by omega) (by rw [hf 354 (by decide)]; exact hrX) (hX.kt hcf) (fun q => absurd q (by omega)) (fun _ Y hY hz => ⟨_, rfl, OD.yes (by decide) ?_ ⟨rfl, Y, hY, ?_, ?_, rfl⟩⟩)
      · exact fun i hi => by rw [zm_off _ (by omega), hz i (by simp only [List.mem_cons, List.not_mem_nil, or_false]; omega), hf i (by simp only [List.mem_cons, List.not_mem_nil, or_false]; omega), hk2 i (Or.inr (by omega))]
      · rw [hz 2 (by decide)]
        exact ⟨(lgO_c (fun c hc => hz _ (by simp only [List.mem_cons, List.not_mem_nil, or_false]; omega))).trans hC2.2.2.2.1.1, hC2.2.2.2.1.2⟩
      · exact fun c hc => by rw [hz c (by simp only [List.mem_cons, List.not_mem_nil, or_false]; omega), hf c (by simp only [List.mem_cons, List.not_mem_nil, or_false]; omega), hk2 c (by omega)]
    · rw [zit_f c]
      refine zCw.use (q_D_nextDay0 (d := 8) (by decide) (by rw [hk2 2 (by decide), n4]; omega)) (by decide) (fun q X2 e => ?_)
      obtain ⟨rfl, rfl⟩ := e
      refine ⟨_, rfl, ?_⟩
      exact seD_w (by omega) (by decide) hrX hX (fun _ => ⟨_, rfl, OD.no rfl (by decide) (PJc.hold (fun _ => hX.1) (fun i hi => hk2 i (by omega)) hX.2.1 (hk2 111 (Or.inl (by decide))))⟩) (fun q => absurd q (by decide))
  · intro μ1 hm
    have hM := hM.k (hm 357 (by decide))
    have hr := hJ.rM h0 h1 hm
    have hu : 0 ≤ μ1 355 28 ∧ μ1 355 28 ≤ 16 := by
      rw [hm 355 (by decide), hJ.2.1.2.1]
      exact hJ.2.1.1.2
    refine zCw.use (zSp.ss [vr 355] rfl (w_M_await (d := 100) (by decide)) rfl rfl ?_) (by decide) (fun q μ' e => e)
    (try simp only [zit_e, Bool.and_eq_true, Bool.or_eq_true, Bool.not_eq_true', Bool.and_eq_false_iff, Bool.or_eq_false_iff, Bool.not_eq_false', zbe, zdt, zdf, zb2_p, zbp_0, zbp_1, zbp_inj, zbp_01, Bool.true_eq_false, Bool.false_eq_true, true_and, and_true, Decidable.not_not, Classical.not_not, implies_true, List.nil_append, List.cons_append, List.append_assoc, Option.some.injEq, Sum.inl.injEq, zSw_c, zSw_n]); (try simp only [zit_e, Bool.and_eq_true, Bool.or_eq_true, Bool.not_eq_true', Bool.and_eq_false_iff, Bool.or_eq_false_iff, Bool.not_eq_false', zbe, zdt, zdf, zb2_p, zbp_0, zbp_1, zbp_inj, zbp_01, Bool.true_eq_false, Bool.false_eq_true, true_and, and_true, Decidable.not_not, Classical.not_not, implies_true, List.nil_append, List.cons_append, List.append_assoc, Option.some.injEq, Sum.inl.injEq, zSw_c, zSw_n, zc_355]); (try simp only [zi_cs, zi_c0, zii_cs, zii_c0, zl_cs, zl_c0, zll_cs, zll_c0, zr_cs, zr_c0, zrr_cs, zrr_c0, zxs_cs, zxs_c0, zxx_cs, zxx_c0, zfree_c0, zfree_c1, zfree_cs, zfree_cz, zlong_i, zlong_r, zlong_x, zset_0, zset_s, true_and, and_true, Option.some.injEq, Sum.inl.injEq, Sum.inr.injEq, zb2_p, zbp_0, zbp_1, zbp_inj, zbp_01, Nat.zero_add, Nat.reduceAdd, implies_true, List.nil_append, List.cons_append, List.append_assoc, Int.not_lt, Int.not_le, Decidable.not_not, Int.zero_add, Int.reduceLE, Int.reduceLT, Int.reduceEq, Int.reduceNe, Int.reduceAdd, Int.reduceSub, Int.reduceMul, Int.reduceNeg, Int.reduceToNat, Nat.reduceMul, Nat.reduceLT, Nat.reduceEqDiff, and_self, ite_true, ite_false, zx1, zx2, zRecv, List.length_cons, List.length_nil, ne_eq, not_true_eq_false, not_false_eq_true, true_or, or_true, or_false, false_or, and_false, false_and, zf01, zf10, reduceCtorEq, zSw_c, zSw_n, zm_r, zit_T, zit_F, false_implies, true_implies, zc_355])
    refine zCw.use (q_M_waitsKept (d := 52) (by decide) hM hu) (by decide) (fun q X e => ?_)
    by_cases c : A.2.2 < 999
    · rw [zit_t c]
      have hgr := grw_ok (Z := Z) (F := F) (w := w) hC.2.1 c _ (Int.le_refl _)
      obtain ⟨rfl, f1, f2, f3, f4⟩ := e.2 c
      refine ⟨_, rfl, ?_⟩
      refine goM_w (by omega) (by omega) (by rw [f4 356 (by decide)]; exact hr) (fun q => absurd q (by omega)) (fun _ => ⟨_, rfl, OM.yes (by decide) ((f4.hc (by simp)).sm (by omega)) ⟨rfl, X, f3, f1.2.2.2.1, f2, rfl⟩⟩)
    · rw [zit_f c]
      obtain ⟨rfl, rfl⟩ := e.1 (by omega)
      refine ⟨_, rfl, ?_⟩
      exact goM_w (by omega) (by decide) hr (fun _ => ⟨_, rfl, OM.no rfl (by decide) PJm.rf⟩) (fun q => absurd q (by decide)))

