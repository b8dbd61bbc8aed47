/-! lend, repay -/
theorem m_Un_hold : Cond.instanceMethod y_Un_hold.1 ∈ zTb ∧ Cond.selects y_Un_hold.1.cls y_Un_hold.1 y_Un_hold.1 ∈ zTb ∧ Cond.initialized y_Un_hold.1.cls ∈ zTb ∧ Cond.code y_Un_hold.1 y_Un_hold.2.1 y_Un_hold.2.2.1 y_Un_hold.2.2.2 ∈ zTb ∧ (y_Un_hold.1.cls ≠ "java/lang/invoke/MethodHandle" ∧ y_Un_hold.1.cls ≠ "java/lang/invoke/VarHandle" ∧ (parseMethodDescriptor y_Un_hold.1.desc).map (fun d => d.parameters.length) = some 1) ∧ y_Un_hold.2.2.1 ≤ 20 :=
  ⟨(zTb_in 933 (by decide +kernel) (by decide +kernel)), (zTb_in 934 (by decide +kernel) (by decide +kernel)), (zTb_in 142 (by decide +kernel) (by decide +kernel)), (zTb_in 935 (by decide +kernel) (by decide +kernel)), by decide +kernel, by decide +kernel⟩
theorem lv_D_263 : zLv "DebtDoors" 263 y_Un_hold 1 10 := ⟨⟨(zTb_in 932 (by decide +kernel) (by decide +kernel)), m_Un_hold.1, m_Un_hold.2.1, m_Un_hold.2.2⟩, _, rfl, rfl⟩
theorem m_D_settled : Cond.instanceMethod y_D_settled.1 ∈ zTb ∧ Cond.selects y_D_settled.1.cls y_D_settled.1 y_D_settled.1 ∈ zTb ∧ Cond.initialized y_D_settled.1.cls ∈ zTb ∧ Cond.code y_D_settled.1 y_D_settled.2.1 y_D_settled.2.2.1 y_D_settled.2.2.2 ∈ zTb ∧ (y_D_settled.1.cls ≠ "java/lang/invoke/MethodHandle" ∧ y_D_settled.1.cls ≠ "java/lang/invoke/VarHandle" ∧ (parseMethodDescriptor y_D_settled.1.desc).map (fun d => d.parameters.length) = some 2) ∧ y_D_settled.2.2.1 ≤ 20 :=
  ⟨(zTb_in 1013 (by decide +kernel) (by decide +kernel)), (List.mem_filter.mpr ⟨List.mem_append_left _ (by decide +kernel), by decide +kernel⟩), (zTb_in 139 (by decide +kernel) (by decide +kernel)), (zTb_in 1014 (by decide +kernel) (by decide +kernel)), by decide +kernel, by decide +kernel⟩
theorem lv_D_295 : zLv "DebtDoors" 295 y_D_settled 2 11 := ⟨⟨(zTb_in 1011 (by decide +kernel) (by decide +kernel)), m_D_settled.1, m_D_settled.2.1, m_D_settled.2.2⟩, _, rfl, rfl⟩
theorem m_D_lendOut : Cond.static y_D_lendOut.1 ∈ zTb ∧ Cond.initialized y_D_lendOut.1.cls ∈ zTb ∧ Cond.code y_D_lendOut.1 y_D_lendOut.2.1 y_D_lendOut.2.2.1 y_D_lendOut.2.2.2 ∈ zTb ∧ (y_D_lendOut.1.cls ≠ "java/lang/invoke/MethodHandle" ∧ y_D_lendOut.1.cls ≠ "java/lang/invoke/VarHandle" ∧ (parseMethodDescriptor y_D_lendOut.1.desc).map (fun d => d.parameters.length) = some 4) ∧ y_D_lendOut.2.2.1 ≤ 20 :=
  ⟨(zTb_in 964 (by decide +kernel) (by decide +kernel)), (zTb_in 139 (by decide +kernel) (by decide +kernel)), (zTb_in 965 (by decide +kernel) (by decide +kernel)), by decide +kernel, by decide +kernel⟩
theorem ls_D_280 : zLs "DebtDoors" 280 y_D_lendOut 4 := Or.inl ⟨(zTb_in 963 (by decide +kernel) (by decide +kernel)), m_D_lendOut⟩
def y_D_lend : zMt := (⟨"DebtDoors", "lend", "(III)I"⟩, prog_1_method_28_code, 4, some .int)
theorem d_D_lend_0 : decode prog_1_method_28_code 0 = .ok (.aload_n 0, 1) := by decide +kernel
theorem d_D_lend_1 : decode prog_1_method_28_code 1 = .ok (.getfield 34, 3) := by decide +kernel
theorem d_D_lend_4 : decode prog_1_method_28_code 4 = .ok (.aload_n 0, 1) := by decide +kernel
theorem d_D_lend_5 : decode prog_1_method_28_code 5 = .ok (.getfield 12, 3) := by decide +kernel
theorem d_D_lend_8 : decode prog_1_method_28_code 8 = .ok (.getfield 115, 3) := by decide +kernel
theorem d_D_lend_11 : decode prog_1_method_28_code 11 = .ok (.invokevirtual 263, 3) := by decide +kernel
theorem d_D_lend_14 : decode prog_1_method_28_code 14 = .ok (.aload_n 0, 1) := by decide +kernel
theorem d_D_lend_15 : decode prog_1_method_28_code 15 = .ok (.iconst 0, 1) := by decide +kernel
theorem d_D_lend_16 : decode prog_1_method_28_code 16 = .ok (.aload_n 0, 1) := by decide +kernel
theorem d_D_lend_17 : decode prog_1_method_28_code 17 = .ok (.getfield 12, 3) := by decide +kernel
theorem d_D_lend_20 : decode prog_1_method_28_code 20 = .ok (.iload_n 1, 1) := by decide +kernel
theorem d_D_lend_21 : decode prog_1_method_28_code 21 = .ok (.iload_n 2, 1) := by decide +kernel
theorem d_D_lend_22 : decode prog_1_method_28_code 22 = .ok (.iload_n 3, 1) := by decide +kernel
theorem d_D_lend_23 : decode prog_1_method_28_code 23 = .ok (.invokestatic 280, 3) := by decide +kernel
theorem d_D_lend_26 : decode prog_1_method_28_code 26 = .ok (.invokevirtual 295, 3) := by decide +kernel
theorem d_D_lend_29 : decode prog_1_method_28_code 29 = .ok (.ireturn, 1) := by decide +kernel
def w_D_lend {d : Nat} (hd : 1 ≤ d) := (show SS ("DebtDoors", prog_1_method_28_code, 4) (some .int) d 0 0 0 0 _ from (sS (p1 := 14) (sV (xVv lv_D_263 (xA (rAr (rAr rA0 (rFr fl_D_34 nk_11_4 (rAn 0 d_D_lend_0 rfl) d_D_lend_1)) (rFr fl_D_115 nk_9_0 (rFr fl_D_12 nk_11_0 (rAn 0 d_D_lend_4 rfl) d_D_lend_5) d_D_lend_8))) (by decide) d_D_lend_11)) (sRi (xV lv_D_295 (xAi (xA (rAi (rAr rA0 (rAn 0 d_D_lend_14 rfl)) (rI d_D_lend_15 rfl))) (xS ls_D_280 (xA (rAi (rAi (rAi (rAr rA0 (rFr fl_D_12 nk_11_0 (rAn 0 d_D_lend_16 rfl) d_D_lend_17)) (rIn 1 d_D_lend_20 rfl)) (rIn 2 d_D_lend_21 rfl)) (rIn 3 d_D_lend_22 rfl))) (by decide) d_D_lend_23)) (by decide) d_D_lend_26) d_D_lend_29 rfl)))
theorem m_M_goodOr : Cond.instanceMethod y_M_goodOr.1 ∈ zTb ∧ Cond.selects y_M_goodOr.1.cls y_M_goodOr.1 y_M_goodOr.1 ∈ zTb ∧ Cond.initialized y_M_goodOr.1.cls ∈ zTb ∧ Cond.code y_M_goodOr.1 y_M_goodOr.2.1 y_M_goodOr.2.2.1 y_M_goodOr.2.2.2 ∈ zTb ∧ (y_M_goodOr.1.cls ≠ "java/lang/invoke/MethodHandle" ∧ y_M_goodOr.1.cls ≠ "java/lang/invoke/VarHandle" ∧ (parseMethodDescriptor y_M_goodOr.1.desc).map (fun d => d.parameters.length) = some 1) ∧ y_M_goodOr.2.2.1 ≤ 20 :=
  ⟨(zTb_in 1840 (by decide +kernel) (by decide +kernel)), (List.mem_filter.mpr ⟨List.mem_append_left _ (by decide +kernel), by decide +kernel⟩), (zTb_in 151 (by decide +kernel) (by decide +kernel)), (zTb_in 1841 (by decide +kernel) (by decide +kernel)), by decide +kernel, by decide +kernel⟩
theorem lv_M_381 : zLv "DebtDoorsModel" 381 y_M_goodOr 1 12 := ⟨⟨(zTb_in 1838 (by decide +kernel) (by decide +kernel)), m_M_goodOr.1, m_M_goodOr.2.1, m_M_goodOr.2.2⟩, _, rfl, rfl⟩
theorem m_M_lendsKept : Cond.instanceMethod y_M_lendsKept.1 ∈ zTb ∧ Cond.selects y_M_lendsKept.1.cls y_M_lendsKept.1 y_M_lendsKept.1 ∈ zTb ∧ Cond.initialized y_M_lendsKept.1.cls ∈ zTb ∧ Cond.code y_M_lendsKept.1 y_M_lendsKept.2.1 y_M_lendsKept.2.2.1 y_M_lendsKept.2.2.2 ∈ zTb ∧ (y_M_lendsKept.1.cls ≠ "java/lang/invoke/MethodHandle" ∧ y_M_lendsKept.1.cls ≠ "java/lang/invoke/VarHandle" ∧ (parseMethodDescriptor y_M_lendsKept.1.desc).map (fun d => d.parameters.length) = some 3) ∧ y_M_lendsKept.2.2.1 ≤ 20 :=
  ⟨(zTb_in 1824 (by decide +kernel) (by decide +kernel)), (List.mem_filter.mpr ⟨List.mem_append_left _ (by decide +kernel), by decide +kernel⟩), (zTb_in 151 (by decide +kernel) (by decide +kernel)), (zTb_in 1825 (by decide +kernel) (by decide +kernel)), by decide +kernel, by decide +kernel⟩
theorem lv_M_378 : zLv "DebtDoorsModel" 378 y_M_lendsKept 3 12 := ⟨⟨(zTb_in 1822 (by decide +kernel) (by decide +kernel)), m_M_lendsKept.1, m_M_lendsKept.2.1, m_M_lendsKept.2.2⟩, _, rfl, rfl⟩
def y_M_lend : zMt := (⟨"DebtDoorsModel", "lend", "(III)I"⟩, prog_14_method_96_code, 4, some .int)
theorem d_M_lend_0 : decode prog_14_method_96_code 0 = .ok (.aload_n 0, 1) := by decide +kernel
theorem d_M_lend_1 : decode prog_14_method_96_code 1 = .ok (.aload_n 0, 1) := by decide +kernel
theorem d_M_lend_2 : decode prog_14_method_96_code 2 = .ok (.iload_n 1, 1) := by decide +kernel
theorem d_M_lend_3 : decode prog_14_method_96_code 3 = .ok (.iload_n 2, 1) := by decide +kernel
theorem d_M_lend_4 : decode prog_14_method_96_code 4 = .ok (.iload_n 3, 1) := by decide +kernel
theorem d_M_lend_5 : decode prog_14_method_96_code 5 = .ok (.invokevirtual 378, 3) := by decide +kernel
theorem d_M_lend_8 : decode prog_14_method_96_code 8 = .ok (.invokevirtual 381, 3) := by decide +kernel
theorem d_M_lend_11 : decode prog_14_method_96_code 11 = .ok (.ireturn, 1) := by decide +kernel
def w_M_lend {d : Nat} (hd : 1 ≤ d) := (show SS ("DebtDoorsModel", prog_14_method_96_code, 4) (some .int) d 0 0 0 0 _ from (sRi (xV lv_M_381 (xAi (xA (rAr rA0 (rAn 0 d_M_lend_0 rfl))) (xV lv_M_378 (xA (rAi (rAi (rAi (rAr rA0 (rAn 0 d_M_lend_1 rfl)) (rIn 1 d_M_lend_2 rfl)) (rIn 2 d_M_lend_3 rfl)) (rIn 3 d_M_lend_4 rfl))) (by decide) d_M_lend_5)) (by decide) d_M_lend_8) d_M_lend_11 rfl))
theorem fD_zd {X : zMem} : HM X X := HM.rf
theorem CTx.n {μ : zMem} {Z : Zt} {F : Option (List Cls)} {A : Lg} {w : Int → Int} (h : CTx μ Z F A w) : (0 ≤ μ 1 6 ∧ μ 1 6 ≤ 7) ∧ μ 1 6 = Z.1 ∧ dbD μ = A.2.1 ∧ μ 2 6 = A.2.2 ∧ (0 ≤ μ 2 5 ∧ μ 2 5 ≤ 16) ∧ μ 2 5 = (A.2.1.length : Int) ∧ tL 7 (μ 3) = A.1 := by
  have h1 := h.1.1
  have h2 := h.2.2.1.1
  have e1 : dbD μ = A.2.1 := congrArg (fun x : Lg => x.2.1) h.2.2.2.1.1
  have e2 : μ 2 6 = A.2.2 := congrArg (fun x : Lg => x.2.2) h.2.2.2.1.1
  have e3 : tL 7 (μ 3) = A.1 := congrArg (fun x : Lg => x.1) h.2.2.2.1.1
  have h3 := h.2.2.2.1.2
  have h4 : (dbD μ).length = (μ 2 5).toNat := tL_len
  have h5 := h.2.1.2.1.1
  rw [e1] at h4
  exact ⟨by omega, h2, e1, e2, by omega, by omega, e3⟩
theorem MTx.n {μ : zMem} {Z : Zt} {F : Option (List Cls)} {A : Lg} {w : Int → Int} (h : MTx μ Z F A w) : (0 ≤ μ 357 152 ∧ μ 357 152 ≤ 7) ∧ μ 357 152 = Z.1 ∧ dbM μ = A.2.1 ∧ μ 357 72 = A.2.2 ∧ (0 ≤ μ 357 71 ∧ μ 357 71 ≤ 16) ∧ μ 357 71 = (A.2.1.length : Int) ∧ tL 7 (μ 357) = A.1 := by
  have h1 := h.1.1
  have h2 := h.2.2.1.1
  have e1 : dbM μ = A.2.1 := congrArg (fun x : Lg => x.2.1) h.2.2.2.1.1
  have e2 : μ 357 72 = A.2.2 := congrArg (fun x : Lg => x.2.2) h.2.2.2.1.1
  have e3 : tL 7 (μ 357) = A.1 := congrArg (fun x : Lg => x.1) h.2.2.2.1.1
  have h3 := h.2.2.2.1.2
  have h4 : (dbM μ).length = (μ 357 71).toNat := tL_len
  have h5 := h.2.1.2.1.1
  rw [e1] at h4
  exact ⟨by omega, h2, e1, e2, by omega, by omega, e3⟩
/-- the purses behind a payment -/
theorem mvP_e {A : Lg} {p q : Int → Int} {a b m : Int} (hp : ∀ i : Int, 0 ≤ i → i < 7 → p i = puA A i) (hab : (0 ≤ a ∧ a < 7) ∧ 0 ≤ b ∧ b < 7) (hq : ∀ j : Int, 0 ≤ j → j < 7 → q j = zit (j = b) (p b + m) (zit (j = a) (p a - m) (p j))) : tL 7 q = mvP (puA A) a b m := by
  unfold mvP
  refine tL_congr (fun i x y => ?_)
  rw [hq i x (by omega), hp b hab.2.1 hab.2.2, hp a hab.1.1 hab.1.2, hp i x (by omega)]
theorem lgO_is {Y : zMem} {A : Lg} (h1 : tL 7 (Y 3) = A.1) (h2 : dbD Y = A.2.1) (h3 : Y 2 6 = A.2.2) : lgO Y 2 = A := by
  show (tL 7 (Y 3), dbD Y, Y 2 6) = A
  rw [h1, h2, h3]
theorem lgM_is {Y : zMem} {A : Lg} (h1 : tL 7 (Y 357) = A.1) (h2 : dbM Y = A.2.1) (h3 : Y 357 72 = A.2.2) : lgM Y = A := by
  show (tL 7 (Y 357), dbM Y, Y 357 72) = A
  rw [h1, h2, h3]
theorem LC_lend {g t m : Int} : LC y_D_lend y_M_lend [vi g, vi t, vi m] := LC.de (fun k μ Z F A w h0 h1 hJ hC hM => by
  obtain ⟨n1, n2, n3, n4, n5, n6, n7⟩ := hC.n
  obtain ⟨hp, hk⟩ := hC.p
  have hcl : lendA Z A g t m = lendC (μ 1 6) (μ 3) (μ 2 5) g t m := by
    unfold lendA
    rw [n2, n6]
    exact (lendC_c hC.1.1.2 hp).symm
  have hlow : -6 ≤ lendA Z A g t m := by
    unfold lendA lendC zit
    repeat' split
    all_goals omega
  have hz7 := hC.1.1.2
  have hg : 0 ≤ lendA Z A g t m → ((0 ≤ g ∧ g < 7) ∧ 0 ≤ t ∧ t < 7) := fun q => by
    have := lendC_0 q
    omega
  refine ⟨lendA Z A g t m, 0, lendA Z A g t m, ldA A g t m, ⟨hlow, by decide, by decide⟩, fun hc => ldA_ok hC.1 hC.2.1 hc, ?_, ?_⟩
  · refine zCw.use (zSp.ss [vr 0, vi g, vi t, vi m] rfl (w_D_lend (d := 100) (by decide)) rfl rfl ?_) (by decide) (fun q μ' e => e)
    (try simp only [zit_e, Bool.and_eq_true, Bool.or_eq_true, Bool.not_eq_true', Bool.and_eq_false_iff, Bool.or_eq_false_iff, Bool.not_eq_false', zbe, zdt, zdf, zb2_p, zbp_0, zbp_1, zbp_inj, zbp_01, Bool.true_eq_false, Bool.false_eq_true, true_and, and_true, Decidable.not_not, Classical.not_not, implies_true, List.nil_append, List.cons_append, List.append_assoc, Option.some.injEq, Sum.inl.injEq, zSw_c, zSw_n]); (try simp only [zit_e, Bool.and_eq_true, Bool.or_eq_true, Bool.not_eq_true', Bool.and_eq_false_iff, Bool.or_eq_false_iff, Bool.not_eq_false', zbe, zdt, zdf, zb2_p, zbp_0, zbp_1, zbp_inj, zbp_01, Bool.true_eq_false, Bool.false_eq_true, true_and, and_true, Decidable.not_not, Classical.not_not, implies_true, List.nil_append, List.cons_append, List.append_assoc, Option.some.injEq, Sum.inl.injEq, zSw_c, zSw_n, zc_0, zc_1, zc_2, zc_111]); (try simp only [zi_cs, zi_c0, zii_cs, zii_c0, zl_cs, zl_c0, zll_cs, zll_c0, zr_cs, zr_c0, zrr_cs, zrr_c0, zxs_cs, zxs_c0, zxx_cs, zxx_c0, zfree_c0, zfree_c1, zfree_cs, zfree_cz, zlong_i, zlong_r, zlong_x, zset_0, zset_s, true_and, and_true, Option.some.injEq, Sum.inl.injEq, Sum.inr.injEq, zb2_p, zbp_0, zbp_1, zbp_inj, zbp_01, Nat.zero_add, Nat.reduceAdd, implies_true, List.nil_append, List.cons_append, List.append_assoc, Int.not_lt, Int.not_le, Decidable.not_not, Int.zero_add, Int.reduceLE, Int.reduceLT, Int.reduceEq, Int.reduceNe, Int.reduceAdd, Int.reduceSub, Int.reduceMul, Int.reduceNeg, Int.reduceToNat, Nat.reduceMul, Nat.reduceLT, Nat.reduceEqDiff, and_self, ite_true, ite_false, zx1, zx2, zRecv, List.length_cons, List.length_nil, ne_eq, not_true_eq_false, not_false_eq_true, true_or, or_true, or_false, false_or, and_false, false_and, zf01, zf10, reduceCtorEq, zSw_c, zSw_n, zm_r, zit_T, zit_F, false_implies, true_implies, zc_0, zc_1, zc_2, zc_111])
    refine hoC_w (by omega) hJ.2.1.so n5 (fun X hX hk2 => ?_)
    have k1 := hk2 1 (Or.inl (by decide))
    have k2 := hk2 2 (Or.inl (by decide))
    have k3 := hk2 3 (Or.inl (by decide))
    refine ⟨rfl, ?_⟩
    (try simp only [zit_e, Bool.and_eq_true, Bool.or_eq_true, Bool.not_eq_true', Bool.and_eq_false_iff, Bool.or_eq_false_iff, Bool.not_eq_false', zbe, zdt, zdf, zb2_p, zbp_0, zbp_1, zbp_inj, zbp_01, Bool.true_eq_false, Bool.false_eq_true, true_and, and_true, Decidable.not_not, Classical.not_not, implies_true, List.nil_append, List.cons_append, List.append_assoc, Option.some.injEq, Sum.inl.injEq, zSw_c, zSw_n]); (try simp only [zit_e, Bool.and_eq_true, Bool.or_eq_true, Bool.not_eq_true', Bool.and_eq_false_iff, Bool.or_eq_false_iff, Bool.not_eq_false', zbe, zdt, zdf, zb2_p, zbp_0, zbp_1, zbp_inj, zbp_01, Bool.true_eq_false, Bool.false_eq_true, true_and, and_true, Decidable.not_not, Classical.not_not, implies_true, List.nil_append, List.cons_append, List.append_assoc, Option.some.injEq, Sum.inl.injEq, zSw_c, zSw_n, zc_0, zc_1, zc_2, zc_111]); (try simp only [zi_cs, zi_c0, zii_cs, zii_c0, zl_cs, zl_c0, zll_cs, zll_c0, zr_cs, zr_c0, zrr_cs, zrr_c0, zxs_cs, zxs_c0, zxx_cs, zxx_c0, zfree_c0, zfree_c1, zfree_cs, zfree_cz, zlong_i, zlong_r, zlong_x, zset_0, zset_s, true_and, and_true, Option.some.injEq, Sum.inl.injEq, Sum.inr.injEq, zb2_p, zbp_0, zbp_1, zbp_inj, zbp_01, Nat.zero_add, Nat.reduceAdd, implies_true, List.nil_append, List.cons_append, List.append_assoc, Int.not_lt, Int.not_le, Decidable.not_not, Int.zero_add, Int.reduceLE, Int.reduceLT, Int.reduceEq, Int.reduceNe, Int.reduceAdd, Int.reduceSub, Int.reduceMul, Int.reduceNeg, Int.reduceToNat, Nat.reduceMul, Nat.reduceLT, Nat.reduceEqDiff, and_self, ite_true, ite_false, zx1, zx2, zRecv, List.length_cons, List.length_nil, ne_eq, not_true_eq_false, not_false_eq_true, true_or, or_true, or_false, false_or, and_false, false_and, zf01, zf10, reduceCtorEq, zSw_c, zSw_n, zm_r, zit_T, zit_F, false_implies, true_implies, zc_0, zc_1, zc_2, zc_111])
    refine zCw.use (q_D_lendOut (d := 3) (by decide) (by rw [k1]; exact n1) (by rw [k3]; exact hk) (by rw [k2]; exact n5)) (by decide) (fun q X2 e => ?_)
    rw [k1, k2, k3, ← hcl] at e
    obtain ⟨rfl, e1, e2⟩ := e
    refine ⟨_, rfl, ?_⟩
    have hr := hJ.rD h0 h1
    have hs := hJ.2.1.so
    generalize hcc : lendA Z A g t m = c at *
    by_cases cc : c < 0
    · obtain rfl := e1 cc
      refine seD_w (by omega) hlow (by rw [hk2 354 (Or.inr (by decide))]; exact hr) hX (fun _ => ⟨_, rfl, OD.no rfl cc (PJc.hold (fun _ => hX.1) (fun i hi => hk2 i (by omega)) hX.2.1 (hk2 111 (Or.inl (by decide))))⟩) (fun q => absurd cc (by omega))
    · obtain ⟨f1, f2, f3, f4, f5, f6⟩ := e2 (by omega)
      refine seD_w (a := μ) (by omega) hlow (by rw [f6 354 (by decide), hk2 354 (Or.inr (by decide))]; exact hr) (hX.kt (f6.kt (by simp))) (fun q => absurd q (by omega)) (fun _ Y hY hz => ⟨_, rfl, OD.yes (by omega) ?_ ⟨rfl, Y, hY, ?_, ?_, rfl⟩⟩)
      · exact fun i hi => by rw [zm_off _ (by omega), hz i (by simp only [List.mem_cons, List.not_mem_nil, or_false]; omega), f6 i (by simp only [List.mem_cons, List.not_mem_nil, or_false]; omega), hk2 i (Or.inr (by omega))]
      · rw [hz 2 (by decide), f4]
        refine ⟨lgO_is ?_ ?_ ?_, by omega⟩
        · rw [hz 3 (by decide), f2]
          refine mvP_e (p := μ 3) hp (hg (by omega)) (fun j _ _ => ?_)
          simp only [zm_r, zit_T, k3]
        · rw [dbD_c (fun c hc => hz c (by simp only [List.mem_cons, List.not_mem_nil, or_false]; omega)) (by rw [hz 2 (by decide)]), f3, dbD_c (fun c hc => hk2 c (by omega)) (by rw [k2]), n3, n4]
          rfl
        · rw [hz 2 (by decide), f5, n4]
          rfl
      · exact fun c hc => by rw [hz c (by simp only [List.mem_cons, List.not_mem_nil, or_false]; omega), f6 c (by simp only [List.mem_cons, List.not_mem_nil, or_false]; omega), hk2 c (by omega)]
  · intro μ1 hm
    have hM := hM.k (hm 357 (by decide))
    obtain ⟨n1, n2, n3, n4, n5, n6, n7⟩ := hM.n
    obtain ⟨hp, hk⟩ := hM.p
    have hcl : lendA Z A g t m = lendC (μ1 357 152) (μ1 357) (μ1 357 71) g t m := by
      unfold lendA
      rw [n2, n6]
      exact (lendC_c hC.1.1.2 hp).symm
    have hr := hJ.rM h0 h1 hm
    have hu : 0 ≤ μ1 355 28 ∧ μ1 355 28 ≤ 16 := by
      rw [hm 355 (by decide), hJ.2.1.2.1]
      exact hJ.2.1.1.2
    refine zCw.use (zSp.ss [vr 355, vi g, vi t, vi m] rfl (w_M_lend (d := 100) (by decide)) rfl rfl ?_) (by decide) (fun q μ' e => e)
    (try simp only [zit_e, Bool.and_eq_true, Bool.or_eq_true, Bool.not_eq_true', Bool.and_eq_false_iff, Bool.or_eq_false_iff, Bool.not_eq_false', zbe, zdt, zdf, zb2_p, zbp_0, zbp_1, zbp_inj, zbp_01, Bool.true_eq_false, Bool.false_eq_true, true_and, and_true, Decidable.not_not, Classical.not_not, implies_true, List.nil_append, List.cons_append, List.append_assoc, Option.some.injEq, Sum.inl.injEq, zSw_c, zSw_n]); (try simp only [zit_e, Bool.and_eq_true, Bool.or_eq_true, Bool.not_eq_true', Bool.and_eq_false_iff, Bool.or_eq_false_iff, Bool.not_eq_false', zbe, zdt, zdf, zb2_p, zbp_0, zbp_1, zbp_inj, zbp_01, Bool.true_eq_false, Bool.false_eq_true, true_and, and_true, Decidable.not_not, Classical.not_not, implies_true, List.nil_append, List.cons_append, List.append_assoc, Option.some.injEq, Sum.inl.injEq, zSw_c, zSw_n, zc_355]); (try simp only [zi_cs, zi_c0, zii_cs, zii_c0, zl_cs, zl_c0, zll_cs, zll_c0, zr_cs, zr_c0, zrr_cs, zrr_c0, zxs_cs, zxs_c0, zxx_cs, zxx_c0, zfree_c0, zfree_c1, zfree_cs, zfree_cz, zlong_i, zlong_r, zlong_x, zset_0, zset_s, true_and, and_true, Option.some.injEq, Sum.inl.injEq, Sum.inr.injEq, zb2_p, zbp_0, zbp_1, zbp_inj, zbp_01, Nat.zero_add, Nat.reduceAdd, implies_true, List.nil_append, List.cons_append, List.append_assoc, Int.not_lt, Int.not_le, Decidable.not_not, Int.zero_add, Int.reduceLE, Int.reduceLT, Int.reduceEq, Int.reduceNe, Int.reduceAdd, Int.reduceSub, Int.reduceMul, Int.reduceNeg, Int.reduceToNat, Nat.reduceMul, Nat.reduceLT, Nat.reduceEqDiff, and_self, ite_true, ite_false, zx1, zx2, zRecv, List.length_cons, List.length_nil, ne_eq, not_true_eq_false, not_false_eq_true, true_or, or_true, or_false, false_or, and_false, false_and, zf01, zf10, reduceCtorEq, zSw_c, zSw_n, zm_r, zit_T, zit_F, false_implies, true_implies, zc_355])
    refine zCw.use (q_M_lendsKept (d := 4) (by decide) n1 hk n5 hu) (by decide) (fun q X e => ?_)
    rw [← hcl] at e
    obtain ⟨rfl, e1, e2⟩ := e
    refine ⟨_, rfl, ?_⟩
    generalize hcc : lendA Z A g t m = c at *
    by_cases cc : c < 0
    · obtain rfl := e1 cc
      exact goM_w (by omega) hlow hr (fun _ => ⟨_, rfl, OM.no rfl cc PJm.rf⟩) (fun q => absurd q (by omega))
    · obtain ⟨f1, f2, f3, f4, f5, f6, f7, f8⟩ := e2 (by omega)
      refine goM_w (by omega) hlow (by rw [f8 356 (by decide)]; exact hr) (fun q => absurd q (by omega)) (fun _ => ⟨_, rfl, OM.yes (by omega) ?_ ⟨rfl, X, ⟨f3, f2, fun c _ _ _ _ => f8 c (by simp only [List.mem_cons, List.not_mem_nil, or_false]; omega), fun j _ hj => f4 j hj⟩, ⟨lgM_is ?_ ?_ ?_, by omega⟩, fun i hi => ?_, rfl⟩⟩)
      · exact (f8.hc (by simp)).sm (by omega)
      · refine mvP_e (p := μ1 357) hp (hg (by omega)) (fun j _ _ => ?_)
        rw [f7 j (by omega)]
      · rw [f5, n3, n4]
        rfl
      · rw [f7 72 (by decide), zit_f (by omega), zit_f (by omega), n4]
        rfl
      · rw [f7 i (by omega), zit_f (by omega), zit_f (by omega)])

