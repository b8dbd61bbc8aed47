theorem m_M_lowers : Cond.instanceMethod y_M_lowers.1 ∈ zTb ∧ Cond.selects y_M_lowers.1.cls y_M_lowers.1 y_M_lowers.1 ∈ zTb ∧ Cond.initialized y_M_lowers.1.cls ∈ zTb ∧ Cond.code y_M_lowers.1 y_M_lowers.2.1 y_M_lowers.2.2.1 y_M_lowers.2.2.2 ∈ zTb ∧ (y_M_lowers.1.cls ≠ "java/lang/invoke/MethodHandle" ∧ y_M_lowers.1.cls ≠ "java/lang/invoke/VarHandle" ∧ (parseMethodDescriptor y_M_lowers.1.desc).map (fun d => d.parameters.length) = some 3) ∧ y_M_lowers.2.2.1 ≤ 20 :=
  ⟨(zTb_in 1860 (by decide +kernel) (by decide +kernel)), (List.mem_filter.mpr ⟨List.mem_append_left _ (by decide +kernel), by decide +kernel⟩), (zTb_in 151 (by decide +kernel) (by decide +kernel)), (zTb_in 1861 (by decide +kernel) (by decide +kernel)), by decide +kernel, by decide +kernel⟩
theorem lv_M_366 : zLv "DebtDoorsModel" 366 y_M_lowers 3 12 := ⟨⟨(zTb_in 1858 (by decide +kernel) (by decide +kernel)), m_M_lowers.1, m_M_lowers.2.1, m_M_lowers.2.2⟩, _, rfl, rfl⟩
def y_M_repays : zMt := (⟨"DebtDoorsModel", "repays", "(III)V"⟩, prog_14_method_91_code, 4, none)
theorem d_M_repays_0 : decode prog_14_method_91_code 0 = .ok (.aload_n 0, 1) := by decide +kernel
theorem d_M_repays_1 : decode prog_14_method_91_code 1 = .ok (.getfield 24, 3) := by decide +kernel
theorem d_M_repays_4 : decode prog_14_method_91_code 4 = .ok (.iconst 0, 1) := by decide +kernel
theorem d_M_repays_5 : decode prog_14_method_91_code 5 = .ok (.iload_n 1, 1) := by decide +kernel
theorem d_M_repays_6 : decode prog_14_method_91_code 6 = .ok (.iadd, 1) := by decide +kernel
theorem d_M_repays_7 : decode prog_14_method_91_code 7 = .ok (.dup2, 1) := by decide +kernel
theorem d_M_repays_8 : decode prog_14_method_91_code 8 = .ok (.iaload, 1) := by decide +kernel
theorem d_M_repays_9 : decode prog_14_method_91_code 9 = .ok (.iload_n 3, 1) := by decide +kernel
theorem d_M_repays_10 : decode prog_14_method_91_code 10 = .ok (.isub, 1) := by decide +kernel
theorem d_M_repays_11 : decode prog_14_method_91_code 11 = .ok (.iastore, 1) := by decide +kernel
theorem d_M_repays_12 : decode prog_14_method_91_code 12 = .ok (.aload_n 0, 1) := by decide +kernel
theorem d_M_repays_13 : decode prog_14_method_91_code 13 = .ok (.getfield 24, 3) := by decide +kernel
theorem d_M_repays_16 : decode prog_14_method_91_code 16 = .ok (.iconst 0, 1) := by decide +kernel
theorem d_M_repays_17 : decode prog_14_method_91_code 17 = .ok (.iload_n 2, 1) := by decide +kernel
theorem d_M_repays_18 : decode prog_14_method_91_code 18 = .ok (.iadd, 1) := by decide +kernel
theorem d_M_repays_19 : decode prog_14_method_91_code 19 = .ok (.dup2, 1) := by decide +kernel
theorem d_M_repays_20 : decode prog_14_method_91_code 20 = .ok (.iaload, 1) := by decide +kernel
theorem d_M_repays_21 : decode prog_14_method_91_code 21 = .ok (.iload_n 3, 1) := by decide +kernel
theorem d_M_repays_22 : decode prog_14_method_91_code 22 = .ok (.iadd, 1) := by decide +kernel
theorem d_M_repays_23 : decode prog_14_method_91_code 23 = .ok (.iastore, 1) := by decide +kernel
theorem d_M_repays_24 : decode prog_14_method_91_code 24 = .ok (.aload_n 0, 1) := by decide +kernel
theorem d_M_repays_25 : decode prog_14_method_91_code 25 = .ok (.iload_n 1, 1) := by decide +kernel
theorem d_M_repays_26 : decode prog_14_method_91_code 26 = .ok (.iload_n 2, 1) := by decide +kernel
theorem d_M_repays_27 : decode prog_14_method_91_code 27 = .ok (.iload_n 3, 1) := by decide +kernel
theorem d_M_repays_28 : decode prog_14_method_91_code 28 = .ok (.invokevirtual 366, 3) := by decide +kernel
theorem d_M_repays_31 : decode prog_14_method_91_code 31 = .ok (.return_, 1) := by decide +kernel
def w_M_repays {d : Nat} (hd : 1 ≤ d) := (show SS ("DebtDoorsModel", prog_14_method_91_code, 4) (none) d 0 0 0 0 _ from (sS (p1 := 12) (sAo o_sub (rFr fl_M_24 nk_12_2 (rAn 0 d_M_repays_0 rfl) d_M_repays_1) (r2 o_add (rI d_M_repays_4 rfl) (rIn 1 d_M_repays_5 rfl) d_M_repays_6) d_M_repays_7 d_M_repays_8 (rIn 3 d_M_repays_9 rfl) d_M_repays_10 d_M_repays_11) (sS (p1 := 24) (sAo o_add (rFr fl_M_24 nk_12_2 (rAn 0 d_M_repays_12 rfl) d_M_repays_13) (r2 o_add (rI d_M_repays_16 rfl) (rIn 2 d_M_repays_17 rfl) d_M_repays_18) d_M_repays_19 d_M_repays_20 (rIn 3 d_M_repays_21 rfl) d_M_repays_22 d_M_repays_23) (sS (p1 := 31) (sV (xVv lv_M_366 (xA (rAi (rAi (rAi (rAr rA0 (rAn 0 d_M_repays_24 rfl)) (rIn 1 d_M_repays_25 rfl)) (rIn 2 d_M_repays_26 rfl)) (rIn 3 d_M_repays_27 rfl))) (by decide) d_M_repays_28)) (sRv d_M_repays_31 rfl)))))
theorem q_M_repays {d : Nat} (hd : 4 ≤ d) {μ : zMem} {a b m : Int} (h : okT (μ 357 71) (fM μ)) (hm : 0 ≤ m ∧ m ≤ 1000000000) (ha : 0 ≤ a ∧ a < 7) (hb : 0 ≤ b ∧ b < 7) (hi : zI (μ 357 a - m) ∧ zI (zit (b = a) (μ 357 a - m) (μ 357 b) + m)) : zSp d 0 0 y_M_repays zT0 [vr 355, vi a, vi b, vi m] μ zT0 (fun r μ' => r = none ∧ dbM μ' = dpL (lsL a b m (dbM μ)) ∧ (0 ≤ μ' 357 71 ∧ μ' 357 71 ≤ μ 357 71) ∧ (∀ j : Int, (j < 7 ∨ 72 ≤ j) → μ' 357 j = zit (j = b) (zit (b = a) (μ 357 a - m) (μ 357 b) + m) (zit (j = a) (μ 357 a - m) (μ 357 j))) ∧ zfc [357] μ μ') := by
  have hn := h.1
  refine zSp.ss [vr 355, vi a, vi b, vi m] rfl (w_M_repays (Nat.le_trans (by decide) hd)) rfl rfl ?_
  (try simp only [zit_e, Bool.and_eq_true, Bool.or_eq_true, Bool.not_eq_true', Bool.and_eq_false_iff, Bool.or_eq_false_iff, Bool.not_eq_false', zbe, zdt, zdf, zb2_p, zbp_0, zbp_1, zbp_inj, zbp_01, Bool.true_eq_false, Bool.false_eq_true, true_and, and_true, Decidable.not_not, Classical.not_not, implies_true, List.nil_append, List.cons_append, List.append_assoc, Option.some.injEq, Sum.inl.injEq, zSw_c, zSw_n]); (try simp only [zit_e, Bool.and_eq_true, Bool.or_eq_true, Bool.not_eq_true', Bool.and_eq_false_iff, Bool.or_eq_false_iff, Bool.not_eq_false', zbe, zdt, zdf, zb2_p, zbp_0, zbp_1, zbp_inj, zbp_01, Bool.true_eq_false, Bool.false_eq_true, true_and, and_true, Decidable.not_not, Classical.not_not, implies_true, List.nil_append, List.cons_append, List.append_assoc, Option.some.injEq, Sum.inl.injEq, zSw_c, zSw_n, zc_355]); (try simp only [zi_cs, zi_c0, zii_cs, zii_c0, zl_cs, zl_c0, zll_cs, zll_c0, zr_cs, zr_c0, zrr_cs, zrr_c0, zxs_cs, zxs_c0, zxx_cs, zxx_c0, zfree_c0, zfree_c1, zfree_cs, zfree_cz, zlong_i, zlong_r, zlong_x, zset_0, zset_s, true_and, and_true, Option.some.injEq, Sum.inl.injEq, Sum.inr.injEq, zb2_p, zbp_0, zbp_1, zbp_inj, zbp_01, Nat.zero_add, Nat.reduceAdd, implies_true, List.nil_append, List.cons_append, List.append_assoc, Int.not_lt, Int.not_le, Decidable.not_not, Int.zero_add, Int.reduceLE, Int.reduceLT, Int.reduceEq, Int.reduceNe, Int.reduceAdd, Int.reduceSub, Int.reduceMul, Int.reduceNeg, Int.reduceToNat, Nat.reduceMul, Nat.reduceLT, Nat.reduceEqDiff, and_self, ite_true, ite_false, zx1, zx2, zRecv, List.length_cons, List.length_nil, ne_eq, not_true_eq_false, not_false_eq_true, true_or, or_true, or_false, false_or, and_false, false_and, zf01, zf10, reduceCtorEq, zSw_c, zSw_n, zm_r, zit_T, zit_F, false_implies, true_implies, zc_355])
  refine ⟨by ((try simp only [zI_e]); (first | done | omega | skip)), by omega, by omega, hi.1, by ((try simp only [zI_e]); (first | done | omega | skip)), by omega, by omega, hi.2, ?_⟩
  have hc : ∀ v w : Int, ∀ j : Int, 7 ≤ j → zm (zm μ 357 a v) 357 b w 357 j = μ 357 j := fun v w j hj => by
    simp only [zm_r, zit_T]
    (repeat (first | rw [zit_f (by omega)] | rw [zit_t (by omega)]))
  have hD : ∀ v w : Int, dbM (zm (zm μ 357 a v) 357 b w) = dbM μ := fun v w => dbM_c (by omega) (fun j h0 _ => hc v w j h0)
  have hok : ∀ v w : Int, okT (zm (zm μ 357 a v) 357 b w 357 71) (fM (zm (zm μ 357 a v) 357 b w)) := fun v w => by
    rw [hc v w 71 (by decide)]
    refine ⟨h.1, fun j h0 h1 => ?_⟩
    have e : fM (zm (zm μ 357 a v) 357 b w) j = fM μ j := by
      unfold fM
      rw [hc _ _ _ (by omega), hc _ _ _ (by omega), hc _ _ _ (by omega), hc _ _ _ (by omega)]
    rw [e]
    exact h.2 j h0 h1
  refine zCw.use (q_M_lowers (d := 3) (Nat.le_refl _) (hok _ _) hm) hd (fun q μ2 e => ?_)
  obtain ⟨e0, e1, e2, e3, e4⟩ := e
  refine ⟨e0, by rw [e1, hD], by rw [hc _ _ 71 (by decide)] at e2; exact e2, fun j hj => ?_, ((zfc.rf.zm (cs := [357]) (by decide)).zm (by decide)).tr e4 |>.mo (by simp)⟩
  rw [e3 j hj]
  simp only [zm_r, zit_T]

