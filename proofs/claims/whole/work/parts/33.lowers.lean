theorem dbM_get {μ : zMem} {i : Nat} (h : (i : Int) < μ 357 71) : (dbM μ)[i]? = some (fM μ i) := tL_get (by omega)
theorem dbM_len {μ : zMem} : (dbM μ).length = (μ 357 71).toNat := tL_len
theorem dbM_am {μ : zMem} {i : Nat} {v : Int} (h : (i : Int) < μ 357 71) (hn : μ 357 71 ≤ 16) : dbM (zm μ 357 (7 + 4 * (i : Int) + 2) v) = (dbM μ).set i ((fM μ i).1, (fM μ i).2.1, v, (fM μ i).2.2.2) := by
  unfold dbM
  rw [tL_set (by omega), show zm μ 357 (7 + 4 * (i : Int) + 2) v 357 71 = μ 357 71 by rw [zm_r, zit_t rfl, zit_f (by omega)]]
  refine tL_congr (fun k h0 h1 => ?_)
  unfold fM
  simp only [zm_r, zit_T]
  by_cases e : k = i
  · rw [if_pos e, zit_f (by omega), zit_f (by omega), zit_t (by omega), zit_f (by omega), e]
  · rw [if_neg e]
    (repeat (first | rw [zit_f (by omega)] | rw [zit_t (by omega)]))
theorem m_M_removes : Cond.instanceMethod y_M_removes.1 ∈ zTb ∧ Cond.selects y_M_removes.1.cls y_M_removes.1 y_M_removes.1 ∈ zTb ∧ Cond.initialized y_M_removes.1.cls ∈ zTb ∧ Cond.code y_M_removes.1 y_M_removes.2.1 y_M_removes.2.2.1 y_M_removes.2.2.2 ∈ zTb ∧ (y_M_removes.1.cls ≠ "java/lang/invoke/MethodHandle" ∧ y_M_removes.1.cls ≠ "java/lang/invoke/VarHandle" ∧ (parseMethodDescriptor y_M_removes.1.desc).map (fun d => d.parameters.length) = some 1) ∧ y_M_removes.2.2.1 ≤ 20 :=
  ⟨(zTb_in 1864 (by decide +kernel) (by decide +kernel)), (List.mem_filter.mpr ⟨List.mem_append_left _ (by decide +kernel), by decide +kernel⟩), (zTb_in 151 (by decide +kernel) (by decide +kernel)), (zTb_in 1865 (by decide +kernel) (by decide +kernel)), by decide +kernel, by decide +kernel⟩
theorem lv_M_363 : zLv "DebtDoorsModel" 363 y_M_removes 1 12 := ⟨⟨(zTb_in 1862 (by decide +kernel) (by decide +kernel)), m_M_removes.1, m_M_removes.2.1, m_M_removes.2.2⟩, _, rfl, rfl⟩
def y_M_lowers : zMt := (⟨"DebtDoorsModel", "lowers", "(III)V"⟩, prog_14_method_90_code, 7, none)
theorem d_M_lowers_0 : decode prog_14_method_90_code 0 = .ok (.iload_n 3, 1) := by decide +kernel
theorem d_M_lowers_1 : decode prog_14_method_90_code 1 = .ok (.istore 4, 2) := by decide +kernel
theorem d_M_lowers_3 : decode prog_14_method_90_code 3 = .ok (.iconst 0, 1) := by decide +kernel
theorem d_M_lowers_4 : decode prog_14_method_90_code 4 = .ok (.istore 5, 2) := by decide +kernel
theorem d_M_lowers_6 : decode prog_14_method_90_code 6 = .ok (.iload 5, 2) := by decide +kernel
theorem d_M_lowers_8 : decode prog_14_method_90_code 8 = .ok (.aload_n 0, 1) := by decide +kernel
theorem d_M_lowers_9 : decode prog_14_method_90_code 9 = .ok (.invokevirtual 137, 3) := by decide +kernel
theorem d_M_lowers_12 : decode prog_14_method_90_code 12 = .ok (.if_icmp .ge 99, 3) := by decide +kernel
theorem d_M_lowers_15 : decode prog_14_method_90_code 15 = .ok (.aload_n 0, 1) := by decide +kernel
theorem d_M_lowers_16 : decode prog_14_method_90_code 16 = .ok (.iload 5, 2) := by decide +kernel
theorem d_M_lowers_18 : decode prog_14_method_90_code 18 = .ok (.iload_n 1, 1) := by decide +kernel
theorem d_M_lowers_19 : decode prog_14_method_90_code 19 = .ok (.iload_n 2, 1) := by decide +kernel
theorem d_M_lowers_20 : decode prog_14_method_90_code 20 = .ok (.invokevirtual 166, 3) := by decide +kernel
theorem d_M_lowers_23 : decode prog_14_method_90_code 23 = .ok (.ifCond .ne 9, 3) := by decide +kernel
theorem d_M_lowers_26 : decode prog_14_method_90_code 26 = .ok (.iinc 5 1, 3) := by decide +kernel
theorem d_M_lowers_29 : decode prog_14_method_90_code 29 = .ok (.goto (-23), 3) := by decide +kernel
theorem d_M_lowers_32 : decode prog_14_method_90_code 32 = .ok (.iload 4, 2) := by decide +kernel
theorem d_M_lowers_34 : decode prog_14_method_90_code 34 = .ok (.aload_n 0, 1) := by decide +kernel
theorem d_M_lowers_35 : decode prog_14_method_90_code 35 = .ok (.getfield 24, 3) := by decide +kernel
theorem d_M_lowers_38 : decode prog_14_method_90_code 38 = .ok (.bipush 7, 2) := by decide +kernel
theorem d_M_lowers_40 : decode prog_14_method_90_code 40 = .ok (.iconst 4, 1) := by decide +kernel
theorem d_M_lowers_41 : decode prog_14_method_90_code 41 = .ok (.iload 5, 2) := by decide +kernel
theorem d_M_lowers_43 : decode prog_14_method_90_code 43 = .ok (.imul, 1) := by decide +kernel
theorem d_M_lowers_44 : decode prog_14_method_90_code 44 = .ok (.iadd, 1) := by decide +kernel
theorem d_M_lowers_45 : decode prog_14_method_90_code 45 = .ok (.iconst 2, 1) := by decide +kernel
theorem d_M_lowers_46 : decode prog_14_method_90_code 46 = .ok (.iadd, 1) := by decide +kernel
theorem d_M_lowers_47 : decode prog_14_method_90_code 47 = .ok (.iaload, 1) := by decide +kernel
theorem d_M_lowers_48 : decode prog_14_method_90_code 48 = .ok (.invokestatic 335, 3) := by decide +kernel
theorem d_M_lowers_51 : decode prog_14_method_90_code 51 = .ok (.istore 6, 2) := by decide +kernel
theorem d_M_lowers_53 : decode prog_14_method_90_code 53 = .ok (.aload_n 0, 1) := by decide +kernel
theorem d_M_lowers_54 : decode prog_14_method_90_code 54 = .ok (.getfield 24, 3) := by decide +kernel
theorem d_M_lowers_57 : decode prog_14_method_90_code 57 = .ok (.bipush 7, 2) := by decide +kernel
theorem d_M_lowers_59 : decode prog_14_method_90_code 59 = .ok (.iconst 4, 1) := by decide +kernel
theorem d_M_lowers_60 : decode prog_14_method_90_code 60 = .ok (.iload 5, 2) := by decide +kernel
theorem d_M_lowers_62 : decode prog_14_method_90_code 62 = .ok (.imul, 1) := by decide +kernel
theorem d_M_lowers_63 : decode prog_14_method_90_code 63 = .ok (.iadd, 1) := by decide +kernel
theorem d_M_lowers_64 : decode prog_14_method_90_code 64 = .ok (.iconst 2, 1) := by decide +kernel
theorem d_M_lowers_65 : decode prog_14_method_90_code 65 = .ok (.iadd, 1) := by decide +kernel
theorem d_M_lowers_66 : decode prog_14_method_90_code 66 = .ok (.dup2, 1) := by decide +kernel
theorem d_M_lowers_67 : decode prog_14_method_90_code 67 = .ok (.iaload, 1) := by decide +kernel
theorem d_M_lowers_68 : decode prog_14_method_90_code 68 = .ok (.iload 6, 2) := by decide +kernel
theorem d_M_lowers_70 : decode prog_14_method_90_code 70 = .ok (.isub, 1) := by decide +kernel
theorem d_M_lowers_71 : decode prog_14_method_90_code 71 = .ok (.iastore, 1) := by decide +kernel
theorem d_M_lowers_72 : decode prog_14_method_90_code 72 = .ok (.iload 4, 2) := by decide +kernel
theorem d_M_lowers_74 : decode prog_14_method_90_code 74 = .ok (.iload 6, 2) := by decide +kernel
theorem d_M_lowers_76 : decode prog_14_method_90_code 76 = .ok (.isub, 1) := by decide +kernel
theorem d_M_lowers_77 : decode prog_14_method_90_code 77 = .ok (.istore 4, 2) := by decide +kernel
theorem d_M_lowers_79 : decode prog_14_method_90_code 79 = .ok (.aload_n 0, 1) := by decide +kernel
theorem d_M_lowers_80 : decode prog_14_method_90_code 80 = .ok (.getfield 24, 3) := by decide +kernel
theorem d_M_lowers_83 : decode prog_14_method_90_code 83 = .ok (.bipush 7, 2) := by decide +kernel
theorem d_M_lowers_85 : decode prog_14_method_90_code 85 = .ok (.iconst 4, 1) := by decide +kernel
theorem d_M_lowers_86 : decode prog_14_method_90_code 86 = .ok (.iload 5, 2) := by decide +kernel
theorem d_M_lowers_88 : decode prog_14_method_90_code 88 = .ok (.imul, 1) := by decide +kernel
theorem d_M_lowers_89 : decode prog_14_method_90_code 89 = .ok (.iadd, 1) := by decide +kernel
theorem d_M_lowers_90 : decode prog_14_method_90_code 90 = .ok (.iconst 2, 1) := by decide +kernel
theorem d_M_lowers_91 : decode prog_14_method_90_code 91 = .ok (.iadd, 1) := by decide +kernel
theorem d_M_lowers_92 : decode prog_14_method_90_code 92 = .ok (.iaload, 1) := by decide +kernel
theorem d_M_lowers_93 : decode prog_14_method_90_code 93 = .ok (.ifCond .ne 12, 3) := by decide +kernel
theorem d_M_lowers_96 : decode prog_14_method_90_code 96 = .ok (.aload_n 0, 1) := by decide +kernel
theorem d_M_lowers_97 : decode prog_14_method_90_code 97 = .ok (.iload 5, 2) := by decide +kernel
theorem d_M_lowers_99 : decode prog_14_method_90_code 99 = .ok (.invokevirtual 363, 3) := by decide +kernel
theorem d_M_lowers_102 : decode prog_14_method_90_code 102 = .ok (.goto 6, 3) := by decide +kernel
theorem d_M_lowers_105 : decode prog_14_method_90_code 105 = .ok (.iinc 5 1, 3) := by decide +kernel
theorem d_M_lowers_108 : decode prog_14_method_90_code 108 = .ok (.goto (-102), 3) := by decide +kernel
theorem d_M_lowers_111 : decode prog_14_method_90_code 111 = .ok (.return_, 1) := by decide +kernel
def w_M_lowers {d : Nat} (hd : 2 ≤ d) := (show SS ("DebtDoorsModel", prog_14_method_90_code, 7) (none) d 0 0 0 0 _ from (sS (p1 := 3) (sI (xE (rIn 3 d_M_lowers_0 rfl)) d_M_lowers_1 (by decide)) (sS (p1 := 6) (sI (xE (rI d_M_lowers_3 rfl)) d_M_lowers_4 (by decide)) (sS (p1 := 111) (sLp (ps := 6) (tt := 15) (pn := 111) (p1 := 0) (p2 := 0) (xC (rNot (rJ2 (tgt := 111) j_ge (rIl d_M_lowers_6) (rV p_M_debts (Nat.le_trans (Nat.le_of_ble_eq_true rfl) hd) lv_M_137 (rAr rA0 (rAn 0 d_M_lowers_8 rfl)) (by decide) d_M_lowers_9) d_M_lowers_12 (by decide)))) (sS (p1 := 32) (sIf (pn := 32) (tt := 26) (xC (rNot (rJ1 (tgt := 32) k_ne (rV p_M_isOf (Nat.le_trans (Nat.le_of_ble_eq_true rfl) hd) lv_M_166 (rAi (rAi (rAi (rAr rA0 (rAn 0 d_M_lowers_15 rfl)) (rIl d_M_lowers_16)) (rIn 1 d_M_lowers_18 rfl)) (rIn 2 d_M_lowers_19 rfl)) (by decide) d_M_lowers_20) d_M_lowers_23 (by decide)))) (sS (p1 := 6) (sGo (pn := 6) (sInc d_M_lowers_26 (by decide)) d_M_lowers_29 (by decide)) sCo0)) (sS (p1 := 53) (sI (xE (rS p_M_lesser (Nat.le_trans (Nat.le_of_ble_eq_true rfl) hd) ls_M_335 (rAi (rAi rA0 (rIl d_M_lowers_32)) (rIa (rFr fl_M_24 nk_12_2 (rAn 0 d_M_lowers_34 rfl) d_M_lowers_35) (r2 o_add (r2 o_add (rB d_M_lowers_38 rfl) (r2 o_mul (rI d_M_lowers_40 rfl) (rIl d_M_lowers_41) d_M_lowers_43) d_M_lowers_44) (rI d_M_lowers_45 rfl) d_M_lowers_46) d_M_lowers_47)) (by decide) d_M_lowers_48)) d_M_lowers_51 (by decide)) (sS (p1 := 72) (sAo o_sub (rFr fl_M_24 nk_12_2 (rAn 0 d_M_lowers_53 rfl) d_M_lowers_54) (r2 o_add (r2 o_add (rB d_M_lowers_57 rfl) (r2 o_mul (rI d_M_lowers_59 rfl) (rIl d_M_lowers_60) d_M_lowers_62) d_M_lowers_63) (rI d_M_lowers_64 rfl) d_M_lowers_65) d_M_lowers_66 d_M_lowers_67 (rIl d_M_lowers_68) d_M_lowers_70 d_M_lowers_71) (sS (p1 := 79) (sI (xE (r2 o_sub (rIl d_M_lowers_72) (rIl d_M_lowers_74) d_M_lowers_76)) d_M_lowers_77 (by decide)) (sGo (pn := 6) (sIe (pn := 108) (tt := 96) (ff := 105) (xC (rNot (rJ1 (tgt := 105) k_ne (rIa (rFr fl_M_24 nk_12_2 (rAn 0 d_M_lowers_79 rfl) d_M_lowers_80) (r2 o_add (r2 o_add (rB d_M_lowers_83 rfl) (r2 o_mul (rI d_M_lowers_85 rfl) (rIl d_M_lowers_86) d_M_lowers_88) d_M_lowers_89) (rI d_M_lowers_90 rfl) d_M_lowers_91) d_M_lowers_92) d_M_lowers_93 (by decide)))) (sGo (pn := 108) (sV (xVv lv_M_363 (xA (rAi (rAr rA0 (rAn 0 d_M_lowers_96 rfl)) (rIl d_M_lowers_97))) (by decide) d_M_lowers_99)) d_M_lowers_102 (by decide)) (sInc d_M_lowers_105 (by decide))) d_M_lowers_108 (by decide)))))) s0) (sRv d_M_lowers_111 rfl)))))
theorem q_M_lowers {d : Nat} (hd : 3 ≤ d) {μ : zMem} {f t m : Int} (h : okT (μ 357 71) (fM μ)) (hm : 0 ≤ m ∧ m ≤ 1000000000) : zSp d 0 0 y_M_lowers zT0 [vr 355, vi f, vi t, vi m] μ zT0 (fun r μ' => r = none ∧ dbM μ' = dpL (lsL f t m (dbM μ)) ∧ (0 ≤ μ' 357 71 ∧ μ' 357 71 ≤ μ 357 71) ∧ (∀ j : Int, (j < 7 ∨ 72 ≤ j) → μ' 357 j = μ 357 j) ∧ zfc [357] μ μ') := by
  have hn := h.1
  refine zSp.ss [vr 355, vi f, vi t, vi m, vx 0, vx 0, vx 0] rfl (w_M_lowers (Nat.le_trans (by decide) hd)) rfl rfl ?_
  (try simp only [zit_e, Bool.and_eq_true, Bool.or_eq_true, Bool.not_eq_true', Bool.and_eq_false_iff, Bool.or_eq_false_iff, Bool.not_eq_false', zbe, zdt, zdf, zb2_p, zbp_0, zbp_1, zbp_inj, zbp_01, Bool.true_eq_false, Bool.false_eq_true, true_and, and_true, Decidable.not_not, Classical.not_not, implies_true, List.nil_append, List.cons_append, List.append_assoc, Option.some.injEq, Sum.inl.injEq, zSw_c, zSw_n]); (try simp only [zit_e, Bool.and_eq_true, Bool.or_eq_true, Bool.not_eq_true', Bool.and_eq_false_iff, Bool.or_eq_false_iff, Bool.not_eq_false', zbe, zdt, zdf, zb2_p, zbp_0, zbp_1, zbp_inj, zbp_01, Bool.true_eq_false, Bool.false_eq_true, true_and, and_true, Decidable.not_not, Classical.not_not, implies_true, List.nil_append, List.cons_append, List.append_assoc, Option.some.injEq, Sum.inl.injEq, zSw_c, zSw_n, zc_355]); (try simp only [zi_cs, zi_c0, zii_cs, zii_c0, zl_cs, zl_c0, zll_cs, zll_c0, zr_cs, zr_c0, zrr_cs, zrr_c0, zxs_cs, zxs_c0, zxx_cs, zxx_c0, zfree_c0, zfree_c1, zfree_cs, zfree_cz, zlong_i, zlong_r, zlong_x, zset_0, zset_s, true_and, and_true, Option.some.injEq, Sum.inl.injEq, Sum.inr.injEq, zb2_p, zbp_0, zbp_1, zbp_inj, zbp_01, Nat.zero_add, Nat.reduceAdd, implies_true, List.nil_append, List.cons_append, List.append_assoc, Int.not_lt, Int.not_le, Decidable.not_not, Int.zero_add, Int.reduceLE, Int.reduceLT, Int.reduceEq, Int.reduceNe, Int.reduceAdd, Int.reduceSub, Int.reduceMul, Int.reduceNeg, Int.reduceToNat, Nat.reduceMul, Nat.reduceLT, Nat.reduceEqDiff, and_self, ite_true, ite_false, zx1, zx2, zRecv, List.length_cons, List.length_nil, ne_eq, not_true_eq_false, not_false_eq_true, true_or, or_true, or_false, false_or, and_false, false_and, zf01, zf10, reduceCtorEq, zSw_c, zSw_n, zm_r, zit_T, zit_F, false_implies, true_implies, zc_355])
  refine zLoop.mk (fun c ρ μ1 => ∃ (w : zV) (P S : List D4) (r : Int), ρ = [vr 355, vi f, vi t, vi m, vi r, vi P.length, w] ∧ dbM μ1 = P ++ S ∧ c = S.length ∧ dpL (lsL f t m (dbM μ)) = P ++ dpL (lsL f t r S) ∧ (∀ x ∈ S, okd x) ∧ (0 ≤ r ∧ r ≤ m) ∧ (0 ≤ μ1 357 71 ∧ μ1 357 71 ≤ μ 357 71) ∧ (∀ j : Int, (j < 7 ∨ 72 ≤ j) → μ1 357 j = μ 357 j) ∧ zfc [357] μ μ1) (dbM μ).length ⟨_, [], dbM μ, m, rfl, rfl, rfl, rfl, ?_, by omega, by omega, fun _ _ => rfl, zfc.rf⟩ ?_
  · intro x hx
    obtain ⟨i, hi⟩ := List.getElem?_of_mem hx
    have hl := (List.getElem?_eq_some_iff.mp hi).1
    rw [dbM_len] at hl
    rw [dbM_get (by omega)] at hi
    cases hi
    exact h.2 i (by omega) (by omega)
  rintro c ρ μ1 ⟨w, P, S, r, rfl, hD, rfl, hE, hS, hr, hn1, hg, hf⟩
  have hlen : P.length + S.length = (μ1 357 71).toNat := by rw [← dbM_len, hD, List.length_append]
  (try simp only [zit_e, Bool.and_eq_true, Bool.or_eq_true, Bool.not_eq_true', Bool.and_eq_false_iff, Bool.or_eq_false_iff, Bool.not_eq_false', zbe, zdt, zdf, zb2_p, zbp_0, zbp_1, zbp_inj, zbp_01, Bool.true_eq_false, Bool.false_eq_true, true_and, and_true, Decidable.not_not, Classical.not_not, implies_true, List.nil_append, List.cons_append, List.append_assoc, Option.some.injEq, Sum.inl.injEq, zSw_c, zSw_n]); (try simp only [zit_e, Bool.and_eq_true, Bool.or_eq_true, Bool.not_eq_true', Bool.and_eq_false_iff, Bool.or_eq_false_iff, Bool.not_eq_false', zbe, zdt, zdf, zb2_p, zbp_0, zbp_1, zbp_inj, zbp_01, Bool.true_eq_false, Bool.false_eq_true, true_and, and_true, Decidable.not_not, Classical.not_not, implies_true, List.nil_append, List.cons_append, List.append_assoc, Option.some.injEq, Sum.inl.injEq, zSw_c, zSw_n, zc_355, f_M_debts, g_M_debts, f_M_isOf, g_M_isOf, f_M_lesser, g_M_lesser]); (try simp only [zi_cs, zi_c0, zii_cs, zii_c0, zl_cs, zl_c0, zll_cs, zll_c0, zr_cs, zr_c0, zrr_cs, zrr_c0, zxs_cs, zxs_c0, zxx_cs, zxx_c0, zfree_c0, zfree_c1, zfree_cs, zfree_cz, zlong_i, zlong_r, zlong_x, zset_0, zset_s, true_and, and_true, Option.some.injEq, Sum.inl.injEq, Sum.inr.injEq, zb2_p, zbp_0, zbp_1, zbp_inj, zbp_01, Nat.zero_add, Nat.reduceAdd, implies_true, List.nil_append, List.cons_append, List.append_assoc, Int.not_lt, Int.not_le, Decidable.not_not, Int.zero_add, Int.reduceLE, Int.reduceLT, Int.reduceEq, Int.reduceNe, Int.reduceAdd, Int.reduceSub, Int.reduceMul, Int.reduceNeg, Int.reduceToNat, Nat.reduceMul, Nat.reduceLT, Nat.reduceEqDiff, and_self, ite_true, ite_false, zx1, zx2, zRecv, List.length_cons, List.length_nil, ne_eq, not_true_eq_false, not_false_eq_true, true_or, or_true, or_false, false_or, and_false, false_and, zf01, zf10, reduceCtorEq, zSw_c, zSw_n, zm_r, zit_T, zit_F, false_implies, true_implies, zc_355, f_M_debts, g_M_debts, f_M_isOf, g_M_isOf, f_M_lesser, g_M_lesser])
  refine zif (fun c => ?_) (fun c => ?_)
  · cases S with
    | nil => simp at hlen; omega
    | cons x S =>
      rw [List.length_cons] at hlen ⊢
      have hx : x = fM μ1 P.length := by
        have := dbM_get (μ := μ1) (i := P.length) (by omega)
        rw [hD, List.getElem?_append_right (Nat.le_refl _), Nat.sub_self] at this
        exact Option.some.inj this
      obtain ⟨a, b, am, s⟩ := x
      have ha : μ1 357 (7 + 4 * (P.length : Int)) = a := (congrArg (fun z : D4 => z.1) hx).symm
      have hb : μ1 357 (7 + 4 * (P.length : Int) + 1) = b := (congrArg (fun z : D4 => z.2.1) hx).symm
      have hm1 : μ1 357 (7 + 4 * (P.length : Int) + 2) = am := (congrArg (fun z : D4 => z.2.2.1) hx).symm
      have hok : 1 ≤ am ∧ am ≤ 9999 := (hS _ List.mem_cons_self).2.2.2.1
      have hS' : ∀ x ∈ S, okd x := fun x hx => hS x (List.mem_cons_of_mem _ hx)
      rw [ha, hb, hm1]
      refine ⟨by omega, ?_⟩
      refine zif (fun e => ?_) (fun e => ?_)
      · refine ⟨by ((try simp only [zI_e]); (first | done | omega | skip)), _, Nat.lt_succ_self _, w, P ++ [(a, b, am, s)], S, r, by rw [List.length_append]; rfl, by rw [hD]; simp, rfl, ?_, hS', hr, hn1, hg, hf⟩
        rw [hE, lsL, if_neg e]
        simp [dpL, show 0 < am by omega]
      · have e : a = f ∧ b = t := Classical.not_not.mp e
        have hset := dbM_am (μ := μ1) (i := P.length) (v := am - min r am) (by omega) (by omega)
        rw [hD, ← hx, List.set_append_right _ _ (Nat.le_refl _), Nat.sub_self, List.set_cons_zero] at hset
        have hz71 : zm μ1 357 (7 + 4 * (P.length : Int) + 2) (am - min r am) 357 71 = μ1 357 71 := by rw [zm_r, zit_t rfl, zit_f (by omega)]
        have hzg : ∀ j : Int, (j < 7 ∨ 72 ≤ j) → zm μ1 357 (7 + 4 * (P.length : Int) + 2) (am - min r am) 357 j = μ 357 j := fun j hj => by
          rw [zm_r, zit_t rfl, zit_f (by omega), hg j hj]
        refine ⟨by ((try simp only [zI_e]); (first | done | omega | skip)), by ((try simp only [zI_e]); (first | done | omega | skip)), by omega, by omega, by ((try simp only [zI_e]); (first | done | omega | skip)), by ((try simp only [zI_e]); (first | done | omega | skip)), by ((try simp only [zI_e]); (first | done | omega | skip)), ?_⟩
        rw [lsL, if_pos e] at hE
        refine zif (fun e0 => ?_) (fun e0 => ?_)
        · refine zCw.use (q_M_removes (d := 2) (Nat.le_refl _) (by rw [hz71]; omega) (by rw [hz71]; omega)) hd (fun q μ2 e9 => ?_)
          obtain ⟨e1, e2, e3, e4, e5⟩ := e9
          refine ⟨e1, _, Nat.lt_succ_self _, _, P, S, r - min r am, rfl, ?_, rfl, ?_, hS', by omega, by omega, fun j hj => by rw [e4 j hj, hzg j hj], ((hf.zm (by decide)).tr e5).mo (by simp)⟩
          · rw [e2, hset, Int.toNat_natCast, List.eraseIdx_append_of_length_le (Nat.le_refl _), Nat.sub_self]
            rfl
          · rw [hE]
            simp [dpL, e0]
        · refine ⟨by ((try simp only [zI_e]); (first | done | omega | skip)), _, Nat.lt_succ_self _, _, P ++ [(a, b, am - min r am, s)], S, r - min r am, by rw [List.length_append]; rfl, by rw [hset]; simp, rfl, ?_, hS', by omega, by rw [zit_f (by omega)]; exact hn1, fun j hj => by rw [zit_f (by omega), hg j hj], hf.zm (by decide)⟩
          have hp : 0 < am - min r am := by omega
          rw [hE, dpL, List.filter_cons_of_pos (by simpa using hp), List.append_assoc]
          rfl
  · have hS0 : S = [] := List.eq_nil_of_length_eq_zero (by omega)
    subst hS0
    refine ⟨by rw [hD, hE]; rfl, hn1, hg, hf⟩

