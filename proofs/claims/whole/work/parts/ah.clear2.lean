/-! a ring is cleared, the class -/
theorem lv_Cl_75 : zLv "DebtDoors$Clearing" 75 y_Le_lessen 3 1 := ⟨⟨(zTb_in 1069 (by decide +kernel) (by decide +kernel)), m_Le_lessen.1, m_Le_lessen.2.1, m_Le_lessen.2.2⟩, _, rfl, rfl⟩
def y_Cl_lessenAll : zMt := (⟨"DebtDoors$Clearing", "lessenAll", "(LDebtDoors$Ledger;I)V"⟩, prog_2_method_6_code, 4, none)
theorem d_Cl_lessenAll_0 : decode prog_2_method_6_code 0 = .ok (.iconst 0, 1) := by decide +kernel
theorem d_Cl_lessenAll_1 : decode prog_2_method_6_code 1 = .ok (.istore_n 3, 1) := by decide +kernel
theorem d_Cl_lessenAll_2 : decode prog_2_method_6_code 2 = .ok (.iload_n 3, 1) := by decide +kernel
theorem d_Cl_lessenAll_3 : decode prog_2_method_6_code 3 = .ok (.aload_n 0, 1) := by decide +kernel
theorem d_Cl_lessenAll_4 : decode prog_2_method_6_code 4 = .ok (.getfield 42, 3) := by decide +kernel
theorem d_Cl_lessenAll_7 : decode prog_2_method_6_code 7 = .ok (.if_icmp .ge 33, 3) := by decide +kernel
theorem d_Cl_lessenAll_10 : decode prog_2_method_6_code 10 = .ok (.aload_n 1, 1) := by decide +kernel
theorem d_Cl_lessenAll_11 : decode prog_2_method_6_code 11 = .ok (.aload_n 0, 1) := by decide +kernel
theorem d_Cl_lessenAll_12 : decode prog_2_method_6_code 12 = .ok (.getfield 21, 3) := by decide +kernel
theorem d_Cl_lessenAll_15 : decode prog_2_method_6_code 15 = .ok (.iload_n 3, 1) := by decide +kernel
theorem d_Cl_lessenAll_16 : decode prog_2_method_6_code 16 = .ok (.iaload, 1) := by decide +kernel
theorem d_Cl_lessenAll_17 : decode prog_2_method_6_code 17 = .ok (.aload_n 0, 1) := by decide +kernel
theorem d_Cl_lessenAll_18 : decode prog_2_method_6_code 18 = .ok (.getfield 21, 3) := by decide +kernel
theorem d_Cl_lessenAll_21 : decode prog_2_method_6_code 21 = .ok (.iload_n 3, 1) := by decide +kernel
theorem d_Cl_lessenAll_22 : decode prog_2_method_6_code 22 = .ok (.iconst 1, 1) := by decide +kernel
theorem d_Cl_lessenAll_23 : decode prog_2_method_6_code 23 = .ok (.iadd, 1) := by decide +kernel
theorem d_Cl_lessenAll_24 : decode prog_2_method_6_code 24 = .ok (.aload_n 0, 1) := by decide +kernel
theorem d_Cl_lessenAll_25 : decode prog_2_method_6_code 25 = .ok (.getfield 42, 3) := by decide +kernel
theorem d_Cl_lessenAll_28 : decode prog_2_method_6_code 28 = .ok (.irem, 1) := by decide +kernel
theorem d_Cl_lessenAll_29 : decode prog_2_method_6_code 29 = .ok (.iaload, 1) := by decide +kernel
theorem d_Cl_lessenAll_30 : decode prog_2_method_6_code 30 = .ok (.iload_n 2, 1) := by decide +kernel
theorem d_Cl_lessenAll_31 : decode prog_2_method_6_code 31 = .ok (.invokevirtual 75, 3) := by decide +kernel
theorem d_Cl_lessenAll_34 : decode prog_2_method_6_code 34 = .ok (.iinc 3 1, 3) := by decide +kernel
theorem d_Cl_lessenAll_37 : decode prog_2_method_6_code 37 = .ok (.goto (-35), 3) := by decide +kernel
theorem d_Cl_lessenAll_40 : decode prog_2_method_6_code 40 = .ok (.return_, 1) := by decide +kernel
def w_Cl_lessenAll {d : Nat} (hd : 1 ≤ d) := (show SS ("DebtDoors$Clearing", prog_2_method_6_code, 4) (none) d 0 0 0 0 _ from (sS (p1 := 40) (sS (p1 := 2) (sIn 3 (xE (rI d_Cl_lessenAll_0 rfl)) d_Cl_lessenAll_1 rfl (by decide)) (sLp (ps := 34) (tt := 10) (pn := 40) (p1 := 0) (p2 := 0) (xC (rNot (rJ2 (tgt := 40) j_ge (rIn 3 d_Cl_lessenAll_2 rfl) (rF 4 fl_Cl_42 nk_0_4 (rAn 0 d_Cl_lessenAll_3 rfl) d_Cl_lessenAll_4 rfl) d_Cl_lessenAll_7 (by decide)))) (sV (xVv lv_Cl_75 (xA (rAi (rAi (rAi (rAr rA0 (rAn 1 d_Cl_lessenAll_10 rfl)) (rIa (rFr fl_Cl_21 nk_0_3 (rAn 0 d_Cl_lessenAll_11 rfl) d_Cl_lessenAll_12) (rIn 3 d_Cl_lessenAll_15 rfl) d_Cl_lessenAll_16)) (rIa (rFr fl_Cl_21 nk_0_3 (rAn 0 d_Cl_lessenAll_17 rfl) d_Cl_lessenAll_18) (r2 o_rem (r2 o_add (rIn 3 d_Cl_lessenAll_21 rfl) (rI d_Cl_lessenAll_22 rfl) d_Cl_lessenAll_23) (rF 4 fl_Cl_42 nk_0_4 (rAn 0 d_Cl_lessenAll_24 rfl) d_Cl_lessenAll_25 rfl) d_Cl_lessenAll_28) d_Cl_lessenAll_29)) (rIn 2 d_Cl_lessenAll_30 rfl))) (by decide) d_Cl_lessenAll_31)) (sGo (pn := 2) (sInc d_Cl_lessenAll_34 (by decide)) d_Cl_lessenAll_37 (by decide)))) (sRv d_Cl_lessenAll_40 rfl)))
theorem nx_e {j n : Nat} (h : 1 ≤ n) : ((j : Int) + 1).tmod (n : Int) = (((j + 1) % n : Nat) : Int) ∧ (j + 1) % n < n := by
  refine ⟨?_, Nat.mod_lt _ h⟩
  rw [Int.tmod_eq_emod_of_nonneg (by omega)]
  exact (Int.natCast_emod (j + 1) n).symm
noncomputable def rlF (f : Nat → Int) (M : Int) : Nat → Int
  | 0 => M
  | j + 1 => min (rlF f M j) (f j)
theorem rlF_A {A : Lg} {l : List Nat} {M : Int} {f : Nat → Int} : ∀ {j : Nat}, (∀ i, i < j → f i = owL (edA l i).1 (edA l i).2 A.2.1) → rlF f M j = rlA A l M j
  | 0, _ => rfl
  | j + 1, h => by
    rw [rlF, rlA, rlF_A (j := j) (fun i hi => h i (by omega)), h j (by omega)]
theorem kc_Cl_65 : Cond.constant "DebtDoors$Clearing" 65 (Int32.ofInt 159984) ∈ zTb := (zTb_in 1062 (by decide +kernel) (by decide +kernel))
theorem km_Cl_70 : Cond.methodLink "DebtDoors$Clearing" 70 Lib.Math.min.name ∈ zTb := (zTb_in 1064 (by decide +kernel) (by decide +kernel))
theorem lv_Cl_66 : zLv "DebtDoors$Clearing" 66 y_Le_owed 2 1 := ⟨⟨(zTb_in 1063 (by decide +kernel) (by decide +kernel)), m_Le_owed.1, m_Le_owed.2.1, m_Le_owed.2.2⟩, _, rfl, rfl⟩
def y_Cl_least : zMt := (⟨"DebtDoors$Clearing", "least", "(LDebtDoors$Ledger;)I"⟩, prog_2_method_5_code, 4, some .int)
theorem d_Cl_least_0 : decode prog_2_method_5_code 0 = .ok (.ldc 65, 2) := by decide +kernel
theorem d_Cl_least_2 : decode prog_2_method_5_code 2 = .ok (.istore_n 2, 1) := by decide +kernel
theorem d_Cl_least_3 : decode prog_2_method_5_code 3 = .ok (.iconst 0, 1) := by decide +kernel
theorem d_Cl_least_4 : decode prog_2_method_5_code 4 = .ok (.istore_n 3, 1) := by decide +kernel
theorem d_Cl_least_5 : decode prog_2_method_5_code 5 = .ok (.iload_n 3, 1) := by decide +kernel
theorem d_Cl_least_6 : decode prog_2_method_5_code 6 = .ok (.aload_n 0, 1) := by decide +kernel
theorem d_Cl_least_7 : decode prog_2_method_5_code 7 = .ok (.getfield 42, 3) := by decide +kernel
theorem d_Cl_least_10 : decode prog_2_method_5_code 10 = .ok (.if_icmp .ge 37, 3) := by decide +kernel
theorem d_Cl_least_13 : decode prog_2_method_5_code 13 = .ok (.iload_n 2, 1) := by decide +kernel
theorem d_Cl_least_14 : decode prog_2_method_5_code 14 = .ok (.aload_n 1, 1) := by decide +kernel
theorem d_Cl_least_15 : decode prog_2_method_5_code 15 = .ok (.aload_n 0, 1) := by decide +kernel
theorem d_Cl_least_16 : decode prog_2_method_5_code 16 = .ok (.getfield 21, 3) := by decide +kernel
theorem d_Cl_least_19 : decode prog_2_method_5_code 19 = .ok (.iload_n 3, 1) := by decide +kernel
theorem d_Cl_least_20 : decode prog_2_method_5_code 20 = .ok (.iaload, 1) := by decide +kernel
theorem d_Cl_least_21 : decode prog_2_method_5_code 21 = .ok (.aload_n 0, 1) := by decide +kernel
theorem d_Cl_least_22 : decode prog_2_method_5_code 22 = .ok (.getfield 21, 3) := by decide +kernel
theorem d_Cl_least_25 : decode prog_2_method_5_code 25 = .ok (.iload_n 3, 1) := by decide +kernel
theorem d_Cl_least_26 : decode prog_2_method_5_code 26 = .ok (.iconst 1, 1) := by decide +kernel
theorem d_Cl_least_27 : decode prog_2_method_5_code 27 = .ok (.iadd, 1) := by decide +kernel
theorem d_Cl_least_28 : decode prog_2_method_5_code 28 = .ok (.aload_n 0, 1) := by decide +kernel
theorem d_Cl_least_29 : decode prog_2_method_5_code 29 = .ok (.getfield 42, 3) := by decide +kernel
theorem d_Cl_least_32 : decode prog_2_method_5_code 32 = .ok (.irem, 1) := by decide +kernel
theorem d_Cl_least_33 : decode prog_2_method_5_code 33 = .ok (.iaload, 1) := by decide +kernel
theorem d_Cl_least_34 : decode prog_2_method_5_code 34 = .ok (.invokevirtual 66, 3) := by decide +kernel
theorem d_Cl_least_37 : decode prog_2_method_5_code 37 = .ok (.invokestatic 70, 3) := by decide +kernel
theorem d_Cl_least_40 : decode prog_2_method_5_code 40 = .ok (.istore_n 2, 1) := by decide +kernel
theorem d_Cl_least_41 : decode prog_2_method_5_code 41 = .ok (.iinc 3 1, 3) := by decide +kernel
theorem d_Cl_least_44 : decode prog_2_method_5_code 44 = .ok (.goto (-39), 3) := by decide +kernel
theorem d_Cl_least_47 : decode prog_2_method_5_code 47 = .ok (.iload_n 2, 1) := by decide +kernel
theorem d_Cl_least_48 : decode prog_2_method_5_code 48 = .ok (.ireturn, 1) := by decide +kernel
def w_Cl_least {d : Nat} (hd : 3 ≤ d) := (show SS ("DebtDoors$Clearing", prog_2_method_5_code, 4) (some .int) d 0 0 0 0 _ from (sS (p1 := 3) (sIn 2 (xE (rLd kc_Cl_65 d_Cl_least_0 rfl)) d_Cl_least_2 rfl (by decide)) (sS (p1 := 47) (sS (p1 := 5) (sIn 3 (xE (rI d_Cl_least_3 rfl)) d_Cl_least_4 rfl (by decide)) (sLp (ps := 41) (tt := 13) (pn := 47) (p1 := 0) (p2 := 0) (xC (rNot (rJ2 (tgt := 47) j_ge (rIn 3 d_Cl_least_5 rfl) (rF 4 fl_Cl_42 nk_0_4 (rAn 0 d_Cl_least_6 rfl) d_Cl_least_7 rfl) d_Cl_least_10 (by decide)))) (sIn 2 (xE (rMin km_Cl_70 (rIn 2 d_Cl_least_13 rfl) (rV p_Le_owed (Nat.le_trans (Nat.le_of_ble_eq_true rfl) hd) lv_Cl_66 (rAi (rAi (rAr rA0 (rAn 1 d_Cl_least_14 rfl)) (rIa (rFr fl_Cl_21 nk_0_3 (rAn 0 d_Cl_least_15 rfl) d_Cl_least_16) (rIn 3 d_Cl_least_19 rfl) d_Cl_least_20)) (rIa (rFr fl_Cl_21 nk_0_3 (rAn 0 d_Cl_least_21 rfl) d_Cl_least_22) (r2 o_rem (r2 o_add (rIn 3 d_Cl_least_25 rfl) (rI d_Cl_least_26 rfl) d_Cl_least_27) (rF 4 fl_Cl_42 nk_0_4 (rAn 0 d_Cl_least_28 rfl) d_Cl_least_29 rfl) d_Cl_least_32) d_Cl_least_33)) (by decide) d_Cl_least_34) (by decide) (Nat.le_trans (Nat.le_of_ble_eq_true rfl) hd) d_Cl_least_37)) d_Cl_least_40 rfl (by decide)) (sGo (pn := 5) (sInc d_Cl_least_41 (by decide)) d_Cl_least_44 (by decide)))) (sRi (xE (rIn 2 d_Cl_least_47 rfl)) d_Cl_least_48 rfl))))
noncomputable def f_Cl_least : List zV → zMem → Int
  | [.inr (.inr (.inl q0)), .inr (.inr (.inl q1))], μ => rlF (fun i => owL (μ 350 (i : Int)) (μ 350 (((i + 1) % (μ 346 4).toNat : Nat) : Int)) (dbD μ)) 159984 (μ 346 4).toNat
  | _, _ => 0
def g_Cl_least : List zV → zMem → Prop
  | [.inr (.inr (.inl q0)), .inr (.inr (.inl q1))], μ => q0 = 346 ∧ q1 = 2 ∧ ((1 ≤ μ 346 4 ∧ μ 346 4 ≤ 7) ∧ okT (μ 2 5) (fD μ))
  | _, _ => False
theorem p_Cl_least : zPu y_Cl_least 3 f_Cl_least g_Cl_least := by
  intro as μ h
  unfold g_Cl_least at h
  split at h
  · next q0 q1 =>
    obtain ⟨rfl, rfl, h⟩ := h
    refine zSp.ss [vr 346, vr 2, vx 0, vx 0] rfl (w_Cl_least (Nat.le_refl _)) rfl rfl ?_
    (try simp only [zit_e, Bool.and_eq_true, Bool.or_eq_true, Bool.not_eq_true', Bool.and_eq_false_iff, Bool.or_eq_false_iff, Bool.not_eq_false', zbe, zdt, zdf, zb2_p, zbp_0, zbp_1, zbp_inj, zbp_01, Bool.true_eq_false, Bool.false_eq_true, true_and, and_true, Decidable.not_not, Classical.not_not, implies_true, List.nil_append, List.cons_append, List.append_assoc, Option.some.injEq, Sum.inl.injEq, zSw_c, zSw_n]); (try simp only [zit_e, Bool.and_eq_true, Bool.or_eq_true, Bool.not_eq_true', Bool.and_eq_false_iff, Bool.or_eq_false_iff, Bool.not_eq_false', zbe, zdt, zdf, zb2_p, zbp_0, zbp_1, zbp_inj, zbp_01, Bool.true_eq_false, Bool.false_eq_true, true_and, and_true, Decidable.not_not, Classical.not_not, implies_true, List.nil_append, List.cons_append, List.append_assoc, Option.some.injEq, Sum.inl.injEq, zSw_c, zSw_n, f_Cl_least, zc_346, zc_2]); (try simp only [zi_cs, zi_c0, zii_cs, zii_c0, zl_cs, zl_c0, zll_cs, zll_c0, zr_cs, zr_c0, zrr_cs, zrr_c0, zxs_cs, zxs_c0, zxx_cs, zxx_c0, zfree_c0, zfree_c1, zfree_cs, zfree_cz, zlong_i, zlong_r, zlong_x, zset_0, zset_s, true_and, and_true, Option.some.injEq, Sum.inl.injEq, Sum.inr.injEq, zb2_p, zbp_0, zbp_1, zbp_inj, zbp_01, Nat.zero_add, Nat.reduceAdd, implies_true, List.nil_append, List.cons_append, List.append_assoc, Int.not_lt, Int.not_le, Decidable.not_not, Int.zero_add, Int.reduceLE, Int.reduceLT, Int.reduceEq, Int.reduceNe, Int.reduceAdd, Int.reduceSub, Int.reduceMul, Int.reduceNeg, Int.reduceToNat, Nat.reduceMul, Nat.reduceLT, Nat.reduceEqDiff, and_self, ite_true, ite_false, zx1, zx2, zRecv, List.length_cons, List.length_nil, ne_eq, not_true_eq_false, not_false_eq_true, true_or, or_true, or_false, false_or, and_false, false_and, zf01, zf10, reduceCtorEq, zSw_c, zSw_n, zm_r, zit_T, zit_F, false_implies, true_implies, f_Cl_least, zc_346, zc_2])
    obtain ⟨n, hn⟩ : ∃ n : Nat, μ 346 4 = (n : Int) := ⟨(μ 346 4).toNat, by omega⟩
    rw [hn, Int.toNat_natCast]
    refine zLoop.up n (fun j ρ μ1 => ρ = [vr 346, vr 2, vi (rlF (fun i => owL (μ 350 (i : Int)) (μ 350 (((i + 1) % n : Nat) : Int)) (dbD μ)) 159984 j), vi j] ∧ μ1 = μ) ⟨rfl, rfl⟩ ?_
    rintro j ρ μ1 hj ⟨rfl, rfl⟩
    (try simp only [zit_e, Bool.and_eq_true, Bool.or_eq_true, Bool.not_eq_true', Bool.and_eq_false_iff, Bool.or_eq_false_iff, Bool.not_eq_false', zbe, zdt, zdf, zb2_p, zbp_0, zbp_1, zbp_inj, zbp_01, Bool.true_eq_false, Bool.false_eq_true, true_and, and_true, Decidable.not_not, Classical.not_not, implies_true, List.nil_append, List.cons_append, List.append_assoc, Option.some.injEq, Sum.inl.injEq, zSw_c, zSw_n]); (try simp only [zit_e, Bool.and_eq_true, Bool.or_eq_true, Bool.not_eq_true', Bool.and_eq_false_iff, Bool.or_eq_false_iff, Bool.not_eq_false', zbe, zdt, zdf, zb2_p, zbp_0, zbp_1, zbp_inj, zbp_01, Bool.true_eq_false, Bool.false_eq_true, true_and, and_true, Decidable.not_not, Classical.not_not, implies_true, List.nil_append, List.cons_append, List.append_assoc, Option.some.injEq, Sum.inl.injEq, zSw_c, zSw_n, zc_346, zc_2, f_Le_owed, g_Le_owed]); (try simp only [zi_cs, zi_c0, zii_cs, zii_c0, zl_cs, zl_c0, zll_cs, zll_c0, zr_cs, zr_c0, zrr_cs, zrr_c0, zxs_cs, zxs_c0, zxx_cs, zxx_c0, zfree_c0, zfree_c1, zfree_cs, zfree_cz, zlong_i, zlong_r, zlong_x, zset_0, zset_s, true_and, and_true, Option.some.injEq, Sum.inl.injEq, Sum.inr.injEq, zb2_p, zbp_0, zbp_1, zbp_inj, zbp_01, Nat.zero_add, Nat.reduceAdd, implies_true, List.nil_append, List.cons_append, List.append_assoc, Int.not_lt, Int.not_le, Decidable.not_not, Int.zero_add, Int.reduceLE, Int.reduceLT, Int.reduceEq, Int.reduceNe, Int.reduceAdd, Int.reduceSub, Int.reduceMul, Int.reduceNeg, Int.reduceToNat, Nat.reduceMul, Nat.reduceLT, Nat.reduceEqDiff, and_self, ite_true, ite_false, zx1, zx2, zRecv, List.length_cons, List.length_nil, ne_eq, not_true_eq_false, not_false_eq_true, true_or, or_true, or_false, false_or, and_false, false_and, zf01, zf10, reduceCtorEq, zSw_c, zSw_n, zm_r, zit_T, zit_F, false_implies, true_implies, zc_346, zc_2, f_Le_owed, g_Le_owed])
    rw [hn]
    have hnx := nx_e (j := j) (n := n) (by omega)
    refine zif (fun c => ?_) (fun c => ?_)
    · rw [hnx.1]
      exact ⟨⟨⟨by omega, ⟨by ((try simp only [zI_e]); (first | done | omega | skip)), by omega⟩, by omega, by omega⟩, h.2⟩, by ((try simp only [zI_e]); (first | done | omega | skip)), znx (by omega) rfl⟩
    · have : j = n := by omega
      rw [this]
  · exact h.elim
theorem q_Cl_lessenAll {d : Nat} (hd : 8 ≤ d) {μ : zMem} {Z : Zt} {F : Option (List Cls)} {A : Lg} {w : Int → Int} {l : List Nat} {m : Int} (h : CTx μ Z F A w) (hl : 1 ≤ l.length ∧ l.length ≤ 7) (hm : 0 ≤ m ∧ m ≤ 1000000) (hR : RgC (some l) μ) : zSp d 0 0 y_Cl_lessenAll zT0 [vr 346, vr 2, vi m] μ zT0 (fun q μ' => q = none ∧ CTx μ' Z F (clA l m A l.length) w ∧ zfc [2, 4, 5, 6, 7] μ μ') := by
  obtain ⟨r1, r2⟩ := hR
  refine zSp.ss [vr 346, vr 2, vi m, vx 0] rfl (w_Cl_lessenAll (Nat.le_trans (by decide) hd)) rfl rfl ?_
  (try simp only [zit_e, Bool.and_eq_true, Bool.or_eq_true, Bool.not_eq_true', Bool.and_eq_false_iff, Bool.or_eq_false_iff, Bool.not_eq_false', zbe, zdt, zdf, zb2_p, zbp_0, zbp_1, zbp_inj, zbp_01, Bool.true_eq_false, Bool.false_eq_true, true_and, and_true, Decidable.not_not, Classical.not_not, implies_true, List.nil_append, List.cons_append, List.append_assoc, Option.some.injEq, Sum.inl.injEq, zSw_c, zSw_n]); (try simp only [zit_e, Bool.and_eq_true, Bool.or_eq_true, Bool.not_eq_true', Bool.and_eq_false_iff, Bool.or_eq_false_iff, Bool.not_eq_false', zbe, zdt, zdf, zb2_p, zbp_0, zbp_1, zbp_inj, zbp_01, Bool.true_eq_false, Bool.false_eq_true, true_and, and_true, Decidable.not_not, Classical.not_not, implies_true, List.nil_append, List.cons_append, List.append_assoc, Option.some.injEq, Sum.inl.injEq, zSw_c, zSw_n, zc_346, zc_2]); (try simp only [zi_cs, zi_c0, zii_cs, zii_c0, zl_cs, zl_c0, zll_cs, zll_c0, zr_cs, zr_c0, zrr_cs, zrr_c0, zxs_cs, zxs_c0, zxx_cs, zxx_c0, zfree_c0, zfree_c1, zfree_cs, zfree_cz, zlong_i, zlong_r, zlong_x, zset_0, zset_s, true_and, and_true, Option.some.injEq, Sum.inl.injEq, Sum.inr.injEq, zb2_p, zbp_0, zbp_1, zbp_inj, zbp_01, Nat.zero_add, Nat.reduceAdd, implies_true, List.nil_append, List.cons_append, List.append_assoc, Int.not_lt, Int.not_le, Decidable.not_not, Int.zero_add, Int.reduceLE, Int.reduceLT, Int.reduceEq, Int.reduceNe, Int.reduceAdd, Int.reduceSub, Int.reduceMul, Int.reduceNeg, Int.reduceToNat, Nat.reduceMul, Nat.reduceLT, Nat.reduceEqDiff, and_self, ite_true, ite_false, zx1, zx2, zRecv, List.length_cons, List.length_nil, ne_eq, not_true_eq_false, not_false_eq_true, true_or, or_true, or_false, false_or, and_false, false_and, zf01, zf10, reduceCtorEq, zSw_c, zSw_n, zm_r, zit_T, zit_F, false_implies, true_implies, zc_346, zc_2])
  refine zLoop.up l.length (fun j ρ μ1 => ρ = [vr 346, vr 2, vi m, vi j] ∧ CTx μ1 Z F (clA l m A j) w ∧ zfc [2, 4, 5, 6, 7] μ μ1) ⟨rfl, h, zfc.rf⟩ ?_
  rintro j ρ μ1 hj ⟨rfl, hC, hf⟩
  (try simp only [zit_e, Bool.and_eq_true, Bool.or_eq_true, Bool.not_eq_true', Bool.and_eq_false_iff, Bool.or_eq_false_iff, Bool.not_eq_false', zbe, zdt, zdf, zb2_p, zbp_0, zbp_1, zbp_inj, zbp_01, Bool.true_eq_false, Bool.false_eq_true, true_and, and_true, Decidable.not_not, Classical.not_not, implies_true, List.nil_append, List.cons_append, List.append_assoc, Option.some.injEq, Sum.inl.injEq, zSw_c, zSw_n]); (try simp only [zit_e, Bool.and_eq_true, Bool.or_eq_true, Bool.not_eq_true', Bool.and_eq_false_iff, Bool.or_eq_false_iff, Bool.not_eq_false', zbe, zdt, zdf, zb2_p, zbp_0, zbp_1, zbp_inj, zbp_01, Bool.true_eq_false, Bool.false_eq_true, true_and, and_true, Decidable.not_not, Classical.not_not, implies_true, List.nil_append, List.cons_append, List.append_assoc, Option.some.injEq, Sum.inl.injEq, zSw_c, zSw_n, zc_346, zc_2]); (try simp only [zi_cs, zi_c0, zii_cs, zii_c0, zl_cs, zl_c0, zll_cs, zll_c0, zr_cs, zr_c0, zrr_cs, zrr_c0, zxs_cs, zxs_c0, zxx_cs, zxx_c0, zfree_c0, zfree_c1, zfree_cs, zfree_cz, zlong_i, zlong_r, zlong_x, zset_0, zset_s, true_and, and_true, Option.some.injEq, Sum.inl.injEq, Sum.inr.injEq, zb2_p, zbp_0, zbp_1, zbp_inj, zbp_01, Nat.zero_add, Nat.reduceAdd, implies_true, List.nil_append, List.cons_append, List.append_assoc, Int.not_lt, Int.not_le, Decidable.not_not, Int.zero_add, Int.reduceLE, Int.reduceLT, Int.reduceEq, Int.reduceNe, Int.reduceAdd, Int.reduceSub, Int.reduceMul, Int.reduceNeg, Int.reduceToNat, Nat.reduceMul, Nat.reduceLT, Nat.reduceEqDiff, and_self, ite_true, ite_false, zx1, zx2, zRecv, List.length_cons, List.length_nil, ne_eq, not_true_eq_false, not_false_eq_true, true_or, or_true, or_false, false_or, and_false, false_and, zf01, zf10, reduceCtorEq, zSw_c, zSw_n, zm_r, zit_T, zit_F, false_implies, true_implies, zc_346, zc_2])
  rw [hf 346 (by decide), r1]
  have hnx := nx_e (j := j) (n := l.length) hl.1
  have hA := clA_ok (l := l) (m := m) h.2.1 hm.1
  refine zif (fun c => ?_) (fun c => ?_)
  · rw [hnx.1, hf 350 (by decide), r2 j (by omega), r2 _ hnx.2]
    refine ⟨⟨by omega, ⟨by ((try simp only [zI_e]); (first | done | omega | skip)), by omega⟩, by omega, by omega⟩, ?_⟩
    refine zCw.use (q_Le_lessen (d := 4) (by decide) hC.d.2.2.2.1 hm) (by omega) (fun q μ2 e => ?_)
    obtain ⟨rfl, e1, e2, e3, e4⟩ := e
    refine ⟨rfl, by ((try simp only [zI_e]); (first | done | omega | skip)), znx (by omega) ⟨rfl, ?_, (hf.tr e4).mo (by simp)⟩⟩
    refine hC.up (hA (j + 1)).1 (lgO_is ?_ ?_ ?_) e2.1 (fun c hc => e4 c (by simp only [List.mem_cons, List.not_mem_nil, or_false]; omega)) ?_
    · rw [e4 3 (by decide)]
      exact hC.d.2.2.1
    · rw [e1, hC.d.1]
      rfl
    · rw [e3, hC.d.2.1]
      rfl
    · rw [e4 326 (by decide)]
      exact hC.2.2.2.2.2
  · have : j = l.length := by omega
    subst this
    exact ⟨hC, hf⟩

