theorem tL_erase {α : Type} {n d : Nat} {f g : Int → α} (hd : d < n) (h1 : ∀ i : Int, 0 ≤ i → i < d → g i = f i) (h2 : ∀ i : Int, d ≤ i → i < (n : Int) - 1 → g i = f (i + 1)) : tL (n - 1) g = (tL n f).eraseIdx d := by
  apply List.ext_getElem?
  intro i
  rw [List.getElem?_eraseIdx]
  by_cases hi : i < n - 1
  · rw [tL_get hi]
    split
    · next h => rw [tL_get (by omega), h1 i (by omega) (by omega)]
    · next h => rw [tL_get (by omega), h2 i (by omega) (by omega)]; rfl
  · rw [List.getElem?_eq_none (by rw [tL_len]; omega)]
    split
    · next h => omega
    · rw [List.getElem?_eq_none (by rw [tL_len]; omega)]
def y_M_removes : zMt := (⟨"DebtDoorsModel", "removes", "(I)V"⟩, prog_14_method_27_code, 3, none)
theorem d_M_removes_0 : decode prog_14_method_27_code 0 = .ok (.aload_n 0, 1) := by decide +kernel
theorem d_M_removes_1 : decode prog_14_method_27_code 1 = .ok (.getfield 24, 3) := by decide +kernel
theorem d_M_removes_4 : decode prog_14_method_27_code 4 = .ok (.bipush 71, 2) := by decide +kernel
theorem d_M_removes_6 : decode prog_14_method_27_code 6 = .ok (.dup2, 1) := by decide +kernel
theorem d_M_removes_7 : decode prog_14_method_27_code 7 = .ok (.iaload, 1) := by decide +kernel
theorem d_M_removes_8 : decode prog_14_method_27_code 8 = .ok (.iconst 1, 1) := by decide +kernel
theorem d_M_removes_9 : decode prog_14_method_27_code 9 = .ok (.isub, 1) := by decide +kernel
theorem d_M_removes_10 : decode prog_14_method_27_code 10 = .ok (.iastore, 1) := by decide +kernel
theorem d_M_removes_11 : decode prog_14_method_27_code 11 = .ok (.iconst 4, 1) := by decide +kernel
theorem d_M_removes_12 : decode prog_14_method_27_code 12 = .ok (.iload_n 1, 1) := by decide +kernel
theorem d_M_removes_13 : decode prog_14_method_27_code 13 = .ok (.imul, 1) := by decide +kernel
theorem d_M_removes_14 : decode prog_14_method_27_code 14 = .ok (.istore_n 2, 1) := by decide +kernel
theorem d_M_removes_15 : decode prog_14_method_27_code 15 = .ok (.iload_n 2, 1) := by decide +kernel
theorem d_M_removes_16 : decode prog_14_method_27_code 16 = .ok (.iconst 4, 1) := by decide +kernel
theorem d_M_removes_17 : decode prog_14_method_27_code 17 = .ok (.aload_n 0, 1) := by decide +kernel
theorem d_M_removes_18 : decode prog_14_method_27_code 18 = .ok (.invokevirtual 137, 3) := by decide +kernel
theorem d_M_removes_21 : decode prog_14_method_27_code 21 = .ok (.imul, 1) := by decide +kernel
theorem d_M_removes_22 : decode prog_14_method_27_code 22 = .ok (.if_icmp .ge 29, 3) := by decide +kernel
theorem d_M_removes_25 : decode prog_14_method_27_code 25 = .ok (.aload_n 0, 1) := by decide +kernel
theorem d_M_removes_26 : decode prog_14_method_27_code 26 = .ok (.getfield 24, 3) := by decide +kernel
theorem d_M_removes_29 : decode prog_14_method_27_code 29 = .ok (.bipush 7, 2) := by decide +kernel
theorem d_M_removes_31 : decode prog_14_method_27_code 31 = .ok (.iload_n 2, 1) := by decide +kernel
theorem d_M_removes_32 : decode prog_14_method_27_code 32 = .ok (.iadd, 1) := by decide +kernel
theorem d_M_removes_33 : decode prog_14_method_27_code 33 = .ok (.aload_n 0, 1) := by decide +kernel
theorem d_M_removes_34 : decode prog_14_method_27_code 34 = .ok (.getfield 24, 3) := by decide +kernel
theorem d_M_removes_37 : decode prog_14_method_27_code 37 = .ok (.bipush 7, 2) := by decide +kernel
theorem d_M_removes_39 : decode prog_14_method_27_code 39 = .ok (.iload_n 2, 1) := by decide +kernel
theorem d_M_removes_40 : decode prog_14_method_27_code 40 = .ok (.iadd, 1) := by decide +kernel
theorem d_M_removes_41 : decode prog_14_method_27_code 41 = .ok (.iconst 4, 1) := by decide +kernel
theorem d_M_removes_42 : decode prog_14_method_27_code 42 = .ok (.iadd, 1) := by decide +kernel
theorem d_M_removes_43 : decode prog_14_method_27_code 43 = .ok (.iaload, 1) := by decide +kernel
theorem d_M_removes_44 : decode prog_14_method_27_code 44 = .ok (.iastore, 1) := by decide +kernel
theorem d_M_removes_45 : decode prog_14_method_27_code 45 = .ok (.iinc 2 1, 3) := by decide +kernel
theorem d_M_removes_48 : decode prog_14_method_27_code 48 = .ok (.goto (-33), 3) := by decide +kernel
theorem d_M_removes_51 : decode prog_14_method_27_code 51 = .ok (.return_, 1) := by decide +kernel
def w_M_removes {d : Nat} (hd : 2 ≤ d) := (show SS ("DebtDoorsModel", prog_14_method_27_code, 3) (none) d 0 0 0 0 _ from (sS (p1 := 11) (sAo o_sub (rFr fl_M_24 nk_12_2 (rAn 0 d_M_removes_0 rfl) d_M_removes_1) (rB d_M_removes_4 rfl) d_M_removes_6 d_M_removes_7 (rI d_M_removes_8 rfl) d_M_removes_9 d_M_removes_10) (sS (p1 := 51) (sS (p1 := 15) (sIn 2 (xE (r2 o_mul (rI d_M_removes_11 rfl) (rIn 1 d_M_removes_12 rfl) d_M_removes_13)) d_M_removes_14 rfl (by decide)) (sLp (ps := 45) (tt := 25) (pn := 51) (p1 := 0) (p2 := 0) (xC (rNot (rJ2 (tgt := 51) j_ge (rIn 2 d_M_removes_15 rfl) (r2 o_mul (rI d_M_removes_16 rfl) (rV p_M_debts (Nat.le_trans (Nat.le_of_ble_eq_true rfl) hd) lv_M_137 (rAr rA0 (rAn 0 d_M_removes_17 rfl)) (by decide) d_M_removes_18) d_M_removes_21) d_M_removes_22 (by decide)))) (sAs (rFr fl_M_24 nk_12_2 (rAn 0 d_M_removes_25 rfl) d_M_removes_26) (r2 o_add (rB d_M_removes_29 rfl) (rIn 2 d_M_removes_31 rfl) d_M_removes_32) (xE (rIa (rFr fl_M_24 nk_12_2 (rAn 0 d_M_removes_33 rfl) d_M_removes_34) (r2 o_add (r2 o_add (rB d_M_removes_37 rfl) (rIn 2 d_M_removes_39 rfl) d_M_removes_40) (rI d_M_removes_41 rfl) d_M_removes_42) d_M_removes_43)) d_M_removes_44) (sGo (pn := 15) (sInc d_M_removes_45 (by decide)) d_M_removes_48 (by decide)))) (sRv d_M_removes_51 rfl))))
theorem q_M_removes {d : Nat} (hd : 2 ≤ d) {μ : zMem} {e : Int} (h : 0 ≤ e ∧ e < μ 357 71) (hn : μ 357 71 ≤ 16) : zSp d 0 0 y_M_removes zT0 [vr 355, vi e] μ zT0 (fun r μ' => r = none ∧ dbM μ' = (dbM μ).eraseIdx e.toNat ∧ μ' 357 71 = μ 357 71 - 1 ∧ (∀ j : Int, (j < 7 ∨ 72 ≤ j) → μ' 357 j = μ 357 j) ∧ zfc [357] μ μ') := by
  refine zSp.ss [vr 355, vi e, vx 0] rfl (w_M_removes (Nat.le_trans (by decide) hd)) rfl rfl ?_
  (try simp only [zit_e, Bool.and_eq_true, Bool.or_eq_true, Bool.not_eq_true', Bool.and_eq_false_iff, Bool.or_eq_false_iff, Bool.not_eq_false', zbe, zdt, zdf, zb2_p, zbp_0, zbp_1, zbp_inj, zbp_01, Bool.true_eq_false, Bool.false_eq_true, true_and, and_true, Decidable.not_not, Classical.not_not, implies_true, List.nil_append, List.cons_append, List.append_assoc, Option.some.injEq, Sum.inl.injEq, zSw_c, zSw_n]); (try simp only [zit_e, Bool.and_eq_true, Bool.or_eq_true, Bool.not_eq_true', Bool.and_eq_false_iff, Bool.or_eq_false_iff, Bool.not_eq_false', zbe, zdt, zdf, zb2_p, zbp_0, zbp_1, zbp_inj, zbp_01, Bool.true_eq_false, Bool.false_eq_true, true_and, and_true, Decidable.not_not, Classical.not_not, implies_true, List.nil_append, List.cons_append, List.append_assoc, Option.some.injEq, Sum.inl.injEq, zSw_c, zSw_n, zc_355]); (try simp only [zi_cs, zi_c0, zii_cs, zii_c0, zl_cs, zl_c0, zll_cs, zll_c0, zr_cs, zr_c0, zrr_cs, zrr_c0, zxs_cs, zxs_c0, zxx_cs, zxx_c0, zfree_c0, zfree_c1, zfree_cs, zfree_cz, zlong_i, zlong_r, zlong_x, zset_0, zset_s, true_and, and_true, Option.some.injEq, Sum.inl.injEq, Sum.inr.injEq, zb2_p, zbp_0, zbp_1, zbp_inj, zbp_01, Nat.zero_add, Nat.reduceAdd, implies_true, List.nil_append, List.cons_append, List.append_assoc, Int.not_lt, Int.not_le, Decidable.not_not, Int.zero_add, Int.reduceLE, Int.reduceLT, Int.reduceEq, Int.reduceNe, Int.reduceAdd, Int.reduceSub, Int.reduceMul, Int.reduceNeg, Int.reduceToNat, Nat.reduceMul, Nat.reduceLT, Nat.reduceEqDiff, and_self, ite_true, ite_false, zx1, zx2, zRecv, List.length_cons, List.length_nil, ne_eq, not_true_eq_false, not_false_eq_true, true_or, or_true, or_false, false_or, and_false, false_and, zf01, zf10, reduceCtorEq, zSw_c, zSw_n, zm_r, zit_T, zit_F, false_implies, true_implies, zc_355])
  refine ⟨by ((try simp only [zI_e]); (first | done | omega | skip)), by ((try simp only [zI_e]); (first | done | omega | skip)), ?_⟩
  refine zLoop.up (4 * (μ 357 71 - 1) - 4 * e).toNat (fun j ρ μ1 => ρ = [vr 355, vi e, vi (4 * e + j)] ∧ (∀ y : Int, μ1 357 y = zit (7 + 4 * e ≤ y ∧ y < 7 + 4 * e + j) (μ 357 (y + 4)) (zit (y = 71) (μ 357 71 - 1) (μ 357 y))) ∧ zfc [357] μ μ1) ⟨by simp, fun y => ?_, zfc.rf.zm (by decide)⟩ ?_
  · rw [zm_r, zit_t (by omega), zit_f (p := 7 + 4 * e ≤ y ∧ _) (by omega)]
  rintro j ρ μ1 hj ⟨rfl, hm, hf⟩
  have h71 : μ1 357 71 = μ 357 71 - 1 := by
    rw [hm]
    (repeat (first | rw [zit_f (by omega)] | rw [zit_t (by omega)]))
  (try simp only [zit_e, Bool.and_eq_true, Bool.or_eq_true, Bool.not_eq_true', Bool.and_eq_false_iff, Bool.or_eq_false_iff, Bool.not_eq_false', zbe, zdt, zdf, zb2_p, zbp_0, zbp_1, zbp_inj, zbp_01, Bool.true_eq_false, Bool.false_eq_true, true_and, and_true, Decidable.not_not, Classical.not_not, implies_true, List.nil_append, List.cons_append, List.append_assoc, Option.some.injEq, Sum.inl.injEq, zSw_c, zSw_n]); (try simp only [zit_e, Bool.and_eq_true, Bool.or_eq_true, Bool.not_eq_true', Bool.and_eq_false_iff, Bool.or_eq_false_iff, Bool.not_eq_false', zbe, zdt, zdf, zb2_p, zbp_0, zbp_1, zbp_inj, zbp_01, Bool.true_eq_false, Bool.false_eq_true, true_and, and_true, Decidable.not_not, Classical.not_not, implies_true, List.nil_append, List.cons_append, List.append_assoc, Option.some.injEq, Sum.inl.injEq, zSw_c, zSw_n, zc_355, f_M_debts, g_M_debts]); (try simp only [zi_cs, zi_c0, zii_cs, zii_c0, zl_cs, zl_c0, zll_cs, zll_c0, zr_cs, zr_c0, zrr_cs, zrr_c0, zxs_cs, zxs_c0, zxx_cs, zxx_c0, zfree_c0, zfree_c1, zfree_cs, zfree_cz, zlong_i, zlong_r, zlong_x, zset_0, zset_s, true_and, and_true, Option.some.injEq, Sum.inl.injEq, Sum.inr.injEq, zb2_p, zbp_0, zbp_1, zbp_inj, zbp_01, Nat.zero_add, Nat.reduceAdd, implies_true, List.nil_append, List.cons_append, List.append_assoc, Int.not_lt, Int.not_le, Decidable.not_not, Int.zero_add, Int.reduceLE, Int.reduceLT, Int.reduceEq, Int.reduceNe, Int.reduceAdd, Int.reduceSub, Int.reduceMul, Int.reduceNeg, Int.reduceToNat, Nat.reduceMul, Nat.reduceLT, Nat.reduceEqDiff, and_self, ite_true, ite_false, zx1, zx2, zRecv, List.length_cons, List.length_nil, ne_eq, not_true_eq_false, not_false_eq_true, true_or, or_true, or_false, false_or, and_false, false_and, zf01, zf10, reduceCtorEq, zSw_c, zSw_n, zm_r, zit_T, zit_F, false_implies, true_implies, zc_355, f_M_debts, g_M_debts])
  rw [h71]
  refine ⟨by ((try simp only [zI_e]); (first | done | omega | skip)), ?_⟩
  refine zif (fun c => ?_) (fun c => ?_)
  · refine ⟨by ((try simp only [zI_e]); (first | done | omega | skip)), by omega, by omega, by ((try simp only [zI_e]); (first | done | omega | skip)), by ((try simp only [zI_e]); (first | done | omega | skip)), znx (by omega) ⟨?_, fun y => ?_, hf.zm (by decide)⟩⟩
    · rw [show 4 * e + (j : Int) + 1 = 4 * e + ((j + 1 : Nat) : Int) by omega]
    · by_cases ey : y = 7 + (4 * e + j)
      · rw [zit_t ey, hm, zit_f (by omega), zit_f (by omega), zit_t (by omega), ey]
      · rw [zit_f ey, hm y]
        by_cases e2 : 7 + 4 * e ≤ y ∧ y < 7 + 4 * e + j
        · rw [zit_t e2, zit_t (by omega)]
        · rw [zit_f e2, zit_f (p := 7 + 4 * e ≤ y ∧ y < 7 + 4 * e + ((j + 1 : Nat) : Int)) (by omega)]
  · have ej : (j : Int) = 4 * (μ 357 71 - 1) - 4 * e := by omega
    rw [ej] at hm
    refine ⟨?_, rfl, fun y hy => ?_, hf⟩
    · unfold dbM
      rw [h71, show (μ 357 71 - 1).toNat = (μ 357 71).toNat - 1 by omega]
      refine tL_erase (by omega) (fun i h0 h1 => ?_) (fun i h0 h1 => ?_)
      · unfold fM
        rw [hm, hm, hm, hm]
        (repeat (first | rw [zit_f (by omega)] | rw [zit_t (by omega)]))
      · unfold fM
        rw [hm, hm, hm, hm]
        (repeat (first | rw [zit_f (by omega)] | rw [zit_t (by omega)]))
        simp only [show 7 + 4 * (i + 1) = 7 + 4 * i + 4 by omega, show ∀ c : Int, 7 + 4 * i + c + 4 = 7 + 4 * i + 4 + c by intro c; omega]
    · rw [hm]
      (repeat (first | rw [zit_f (by omega)] | rw [zit_t (by omega)]))

