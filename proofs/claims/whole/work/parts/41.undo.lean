/-! what can be undone, in the class -/
def lgO (μ : zMem) (L : Nat) : Lg := (tL 7 (μ (L + 1)), tL (μ L 5).toNat (fun i => (μ (L + 2) i, μ (L + 3) i, μ (L + 4) i, μ (L + 5) i)), μ L 6)
/-- the cell of a slot's ledger -/
def slC (U : Nat) (s : Int) : Nat := U + 3 + 6 * s.toNat
/-- a deed's slot -/
def slI (μ : zMem) (U : Nat) (i : Int) : Int := (μ U 2 + i) % 17
def unD (μ : zMem) (U : Nat) : List (Lg × Int) := tL (μ U 3).toNat (fun i => (lgO μ (slC U (slI μ U i)), μ (U + 2) (slI μ U i)))
theorem zun_all : (List.range 17).all (fun j => (zpa 112 (j : Int) == slC 111 (j : Int)) && zO 1 (slC 111 (j : Int)) && (zpa 217 (j : Int) == slC 216 (j : Int)) && zO 1 (slC 216 (j : Int))) = true := by decide +kernel
theorem zun {s : Int} (h0 : 0 ≤ s) (h1 : s < 17) : zpa 112 s = slC 111 s ∧ zO 1 (slC 111 s) = true ∧ zpa 217 s = slC 216 s ∧ zO 1 (slC 216 s) = true := by
  obtain ⟨n, rfl⟩ := Int.eq_ofNat_of_zero_le h0
  have := List.all_eq_true.mp zun_all n (List.mem_range.mpr (by omega))
  simp only [Bool.and_eq_true, beq_iff_eq] at this
  exact ⟨this.1.1.1, this.1.1.2, this.1.2, this.2⟩
theorem slI_in {μ : zMem} {U : Nat} {i : Int} : 0 ≤ slI μ U i ∧ slI μ U i < 17 := by unfold slI; omega
theorem slI_tm {μ : zMem} {U : Nat} {i : Int} (h : 0 ≤ μ U 2 + i) : (μ U 2 + i).tmod 17 = slI μ U i := by
  unfold slI
  exact Int.tmod_eq_emod_of_nonneg h
theorem slI_ne {μ : zMem} {U : Nat} {i j : Int} (h0 : 0 ≤ i) (h1 : i < j) (h2 : j ≤ 16) : slI μ U i ≠ slI μ U j := by unfold slI; omega
theorem lgO_c {μ μ' : zMem} {L : Nat} (h : ∀ c, c ≤ 5 → μ' (L + c) = μ (L + c)) : lgO μ' L = lgO μ L := by
  unfold lgO
  rw [h 1 (by omega), h 2 (by omega), h 3 (by omega), h 4 (by omega), h 5 (by omega), show μ' L = μ L from h 0 (by omega)]
/-- a copied ledger -/
theorem lgO_cp {μ μ' : zMem} {L O : Nat} (hn : 0 ≤ μ O 5 ∧ μ O 5 ≤ 16) (h1 : ∀ i : Int, 0 ≤ i → i < 7 → μ' (L + 1) i = μ (O + 1) i) (h2 : ∀ i : Int, 0 ≤ i → i < 16 → μ' (L + 2) i = μ (O + 2) i ∧ μ' (L + 3) i = μ (O + 3) i ∧ μ' (L + 4) i = μ (O + 4) i ∧ μ' (L + 5) i = μ (O + 5) i) (h3 : μ' L 5 = μ O 5) (h4 : μ' L 6 = μ O 6) : lgO μ' L = lgO μ O := by
  unfold lgO
  rw [h3, h4]
  congr 1
  · exact tL_congr (fun i a b => h1 i a (by omega))
  · congr 1
    refine tL_congr (fun i a b => ?_)
    obtain ⟨e1, e2, e3, e4⟩ := h2 i a (by omega)
    rw [e1, e2, e3, e4]
/-- slots that are not written -/
theorem unD_c {μ μ' : zMem} {U : Nat} {s : Int} (hs : 0 ≤ s ∧ s < 17) (hu : 0 ≤ μ U 3 ∧ μ U 3 ≤ 16) (hne : ∀ i : Int, 0 ≤ i → i < μ U 3 → slI μ U i ≠ s) (h1 : μ' U = μ U) (h2 : μ' (U + 2) = μ (U + 2)) (h3 : ∀ k, k ∉ [slC U s, slC U s + 1, slC U s + 2, slC U s + 3, slC U s + 4, slC U s + 5] → μ' k = μ k) : unD μ' U = unD μ U := by
  unfold unD slI
  rw [h1, h2]
  refine tL_congr (fun i a b => ?_)
  have hi := hne i a (by omega)
  unfold slI at hi
  congr 1
  refine lgO_c (fun c hc => h3 _ ?_)
  have := (show 0 ≤ (μ U 2 + i) % 17 ∧ (μ U 2 + i) % 17 < 17 by omega)
  unfold slC
  simp only [List.mem_cons, List.not_mem_nil, or_false]
  omega
theorem m_Le_copyFrom : Cond.instanceMethod y_Le_copyFrom.1 ∈ zTb ∧ Cond.selects y_Le_copyFrom.1.cls y_Le_copyFrom.1 y_Le_copyFrom.1 ∈ zTb ∧ Cond.initialized y_Le_copyFrom.1.cls ∈ zTb ∧ Cond.code y_Le_copyFrom.1 y_Le_copyFrom.2.1 y_Le_copyFrom.2.2.1 y_Le_copyFrom.2.2.2 ∈ zTb ∧ (y_Le_copyFrom.1.cls ≠ "java/lang/invoke/MethodHandle" ∧ y_Le_copyFrom.1.cls ≠ "java/lang/invoke/VarHandle" ∧ (parseMethodDescriptor y_Le_copyFrom.1.desc).map (fun d => d.parameters.length) = some 1) ∧ y_Le_copyFrom.2.2.1 ≤ 20 :=
  ⟨(zTb_in 909 (by decide +kernel) (by decide +kernel)), (zTb_in 910 (by decide +kernel) (by decide +kernel)), (zTb_in 141 (by decide +kernel) (by decide +kernel)), (zTb_in 911 (by decide +kernel) (by decide +kernel)), by decide +kernel, by decide +kernel⟩
theorem lv_Un_26 : zLv "DebtDoors$Undo" 26 y_Le_copyFrom 1 1 := ⟨⟨(zTb_in 917 (by decide +kernel) (by decide +kernel)), m_Le_copyFrom.1, m_Le_copyFrom.2.1, m_Le_copyFrom.2.2⟩, _, rfl, rfl⟩
theorem nk_10_0 : zNk 10 0 = none := rfl
theorem m_Un_slot : Cond.instanceMethod y_Un_slot.1 ∈ zTb ∧ Cond.selects y_Un_slot.1.cls y_Un_slot.1 y_Un_slot.1 ∈ zTb ∧ Cond.initialized y_Un_slot.1.cls ∈ zTb ∧ Cond.code y_Un_slot.1 y_Un_slot.2.1 y_Un_slot.2.2.1 y_Un_slot.2.2.2 ∈ zTb ∧ (y_Un_slot.1.cls ≠ "java/lang/invoke/MethodHandle" ∧ y_Un_slot.1.cls ≠ "java/lang/invoke/VarHandle" ∧ (parseMethodDescriptor y_Un_slot.1.desc).map (fun d => d.parameters.length) = some 1) ∧ y_Un_slot.2.2.1 ≤ 20 :=
  ⟨(zTb_in 938 (by decide +kernel) (by decide +kernel)), (List.mem_filter.mpr ⟨List.mem_append_left _ (by decide +kernel), by decide +kernel⟩), (zTb_in 142 (by decide +kernel) (by decide +kernel)), (zTb_in 939 (by decide +kernel) (by decide +kernel)), by decide +kernel, by decide +kernel⟩
theorem lv_Un_33 : zLv "DebtDoors$Undo" 33 y_Un_slot 1 10 := ⟨⟨(zTb_in 936 (by decide +kernel) (by decide +kernel)), m_Un_slot.1, m_Un_slot.2.1, m_Un_slot.2.2⟩, _, rfl, rfl⟩
def y_Un_hold : zMt := (⟨"DebtDoors$Undo", "hold", "(LDebtDoors$Ledger;)V"⟩, prog_12_method_4_code, 2, none)
theorem d_Un_hold_0 : decode prog_12_method_4_code 0 = .ok (.aload_n 0, 1) := by decide +kernel
theorem d_Un_hold_1 : decode prog_12_method_4_code 1 = .ok (.getfield 13, 3) := by decide +kernel
theorem d_Un_hold_4 : decode prog_12_method_4_code 4 = .ok (.aload_n 0, 1) := by decide +kernel
theorem d_Un_hold_5 : decode prog_12_method_4_code 5 = .ok (.aload_n 0, 1) := by decide +kernel
theorem d_Un_hold_6 : decode prog_12_method_4_code 6 = .ok (.getfield 30, 3) := by decide +kernel
theorem d_Un_hold_9 : decode prog_12_method_4_code 9 = .ok (.invokevirtual 33, 3) := by decide +kernel
theorem d_Un_hold_12 : decode prog_12_method_4_code 12 = .ok (.aaload, 1) := by decide +kernel
theorem d_Un_hold_13 : decode prog_12_method_4_code 13 = .ok (.aload_n 1, 1) := by decide +kernel
theorem d_Un_hold_14 : decode prog_12_method_4_code 14 = .ok (.invokevirtual 26, 3) := by decide +kernel
theorem d_Un_hold_17 : decode prog_12_method_4_code 17 = .ok (.return_, 1) := by decide +kernel
def w_Un_hold {d : Nat} (hd : 2 ≤ d) := (show SS ("DebtDoors$Undo", prog_12_method_4_code, 2) (none) d 0 0 0 0 _ from (sS (p1 := 17) (sV (xVv lv_Un_26 (xA (rAr (rAr rA0 (rAa (rFr fl_Un_13 nk_10_0 (rAn 0 d_Un_hold_0 rfl) d_Un_hold_1) (rV p_Un_slot (Nat.le_trans (Nat.le_of_ble_eq_true rfl) hd) lv_Un_33 (rAi (rAr rA0 (rAn 0 d_Un_hold_4 rfl)) (rF 3 fl_Un_30 nk_10_3 (rAn 0 d_Un_hold_5 rfl) d_Un_hold_6 rfl)) (by decide) d_Un_hold_9) d_Un_hold_12)) (rAn 1 d_Un_hold_13 rfl))) (by decide) d_Un_hold_14)) (sRv d_Un_hold_17 rfl)))
theorem q_Un_hold {d : Nat} (hd : 5 ≤ d) {μ : zMem} (hu : (0 ≤ μ 111 2 ∧ μ 111 2 < 17) ∧ 0 ≤ μ 111 3 ∧ μ 111 3 ≤ 16) (hl : 0 ≤ μ 2 5 ∧ μ 2 5 ≤ 16) : zSp d 0 0 y_Un_hold zT0 [vr 111, vr 2] μ zT0 (fun r μ' => r = none ∧ lgO μ' (slC 111 (slI μ 111 (μ 111 3))) = lgO μ 2 ∧ unD μ' 111 = unD μ 111 ∧ (∀ k, (k < 114 ∨ 216 ≤ k) → μ' k = μ k) ∧ ∀ s : Int, 0 ≤ s → s < 17 → μ' (slC 111 s) 5 = μ (slC 111 s) 5 ∨ μ' (slC 111 s) 5 = μ 2 5) := by
  have hs := slI_in (μ := μ) (U := 111) (i := μ 111 3)
  have hz := zun hs.1 hs.2
  refine zSp.ss [vr 111, vr 2] rfl (w_Un_hold (Nat.le_trans (by decide) hd)) rfl rfl ?_
  (try simp only [zit_e, Bool.and_eq_true, Bool.or_eq_true, Bool.not_eq_true', Bool.and_eq_false_iff, Bool.or_eq_false_iff, Bool.not_eq_false', zbe, zdt, zdf, zb2_p, zbp_0, zbp_1, zbp_inj, zbp_01, Bool.true_eq_false, Bool.false_eq_true, true_and, and_true, Decidable.not_not, Classical.not_not, implies_true, List.nil_append, List.cons_append, List.append_assoc, Option.some.injEq, Sum.inl.injEq, zSw_c, zSw_n]); (try simp only [zit_e, Bool.and_eq_true, Bool.or_eq_true, Bool.not_eq_true', Bool.and_eq_false_iff, Bool.or_eq_false_iff, Bool.not_eq_false', zbe, zdt, zdf, zb2_p, zbp_0, zbp_1, zbp_inj, zbp_01, Bool.true_eq_false, Bool.false_eq_true, true_and, and_true, Decidable.not_not, Classical.not_not, implies_true, List.nil_append, List.cons_append, List.append_assoc, Option.some.injEq, Sum.inl.injEq, zSw_c, zSw_n, zc_111, zc_2, f_Un_slot, g_Un_slot]); (try simp only [zi_cs, zi_c0, zii_cs, zii_c0, zl_cs, zl_c0, zll_cs, zll_c0, zr_cs, zr_c0, zrr_cs, zrr_c0, zxs_cs, zxs_c0, zxx_cs, zxx_c0, zfree_c0, zfree_c1, zfree_cs, zfree_cz, zlong_i, zlong_r, zlong_x, zset_0, zset_s, true_and, and_true, Option.some.injEq, Sum.inl.injEq, Sum.inr.injEq, zb2_p, zbp_0, zbp_1, zbp_inj, zbp_01, Nat.zero_add, Nat.reduceAdd, implies_true, List.nil_append, List.cons_append, List.append_assoc, Int.not_lt, Int.not_le, Decidable.not_not, Int.zero_add, Int.reduceLE, Int.reduceLT, Int.reduceEq, Int.reduceNe, Int.reduceAdd, Int.reduceSub, Int.reduceMul, Int.reduceNeg, Int.reduceToNat, Nat.reduceMul, Nat.reduceLT, Nat.reduceEqDiff, and_self, ite_true, ite_false, zx1, zx2, zRecv, List.length_cons, List.length_nil, ne_eq, not_true_eq_false, not_false_eq_true, true_or, or_true, or_false, false_or, and_false, false_and, zf01, zf10, reduceCtorEq, zSw_c, zSw_n, zm_r, zit_T, zit_F, false_implies, true_implies, zc_111, zc_2, f_Un_slot, g_Un_slot])
  rw [slI_tm (by omega), hz.1]
  refine ⟨⟨by omega, by omega, hs⟩, hz.2.1, ?_⟩
  refine zCw.use (q_Le_copyFrom (d := 4) (by decide) hz.2.1 zc_2.1.1 (by unfold slC; omega)) (by omega) (fun q μ2 e => ?_)
  obtain ⟨e0, e1, e2, e3, e4, e5⟩ := e
  have hz2 := hs
  generalize hsg : slI μ 111 (μ 111 3) = s at *
  refine ⟨e0, lgO_cp ?_ e1 e2 e3 e4, unD_c hs hu.2 (fun i a b => hsg ▸ slI_ne a b hu.2.2) (e5 111 ?_) (e5 113 ?_) e5, fun k hk => e5 k ?_, fun i a b => ?_⟩
  · exact hl
  rotate_right
  · by_cases es : i = s
    · subst es
      exact Or.inr e3
    · refine Or.inl (congrFun (e5 _ ?_) 5)
      unfold slC
      simp only [List.mem_cons, List.not_mem_nil, or_false]
      omega
  all_goals
    unfold slC
    simp only [List.mem_cons, List.not_mem_nil, or_false]
    omega

