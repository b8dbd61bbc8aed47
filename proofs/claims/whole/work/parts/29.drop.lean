def dpL (l : List D4) : List D4 := l.filter (fun x => decide (0 < x.2.2.1))
theorem dpL_s {n : Nat} {f : Int → D4} : dpL (tL (n + 1) f) = dpL (tL n f) ++ if 0 < (f n).2.2.1 then [f n] else [] := by
  rw [tL_succ, dpL, dpL, List.filter_append]
  congr 1
  by_cases h : 0 < (f n).2.2.1 <;> simp [h]
theorem dpL_len {n : Nat} {f : Int → D4} : (dpL (tL n f)).length ≤ n := by
  have := List.length_filter_le (fun x : D4 => decide (0 < x.2.2.1)) (tL n f)
  rw [tL_len] at this
  exact this
def y_Le_dropPaid : zMt := (⟨"DebtDoors$Ledger", "dropPaid", "()V"⟩, prog_3_method_8_code, 3, none)
theorem d_Le_dropPaid_0 : decode prog_3_method_8_code 0 = .ok (.iconst 0, 1) := by decide +kernel
theorem d_Le_dropPaid_1 : decode prog_3_method_8_code 1 = .ok (.istore_n 1, 1) := by decide +kernel
theorem d_Le_dropPaid_2 : decode prog_3_method_8_code 2 = .ok (.iconst 0, 1) := by decide +kernel
theorem d_Le_dropPaid_3 : decode prog_3_method_8_code 3 = .ok (.istore_n 2, 1) := by decide +kernel
theorem d_Le_dropPaid_4 : decode prog_3_method_8_code 4 = .ok (.iload_n 2, 1) := by decide +kernel
theorem d_Le_dropPaid_5 : decode prog_3_method_8_code 5 = .ok (.aload_n 0, 1) := by decide +kernel
theorem d_Le_dropPaid_6 : decode prog_3_method_8_code 6 = .ok (.getfield 33, 3) := by decide +kernel
theorem d_Le_dropPaid_9 : decode prog_3_method_8_code 9 = .ok (.if_icmp .ge 69, 3) := by decide +kernel
theorem d_Le_dropPaid_12 : decode prog_3_method_8_code 12 = .ok (.aload_n 0, 1) := by decide +kernel
theorem d_Le_dropPaid_13 : decode prog_3_method_8_code 13 = .ok (.getfield 21, 3) := by decide +kernel
theorem d_Le_dropPaid_16 : decode prog_3_method_8_code 16 = .ok (.iload_n 2, 1) := by decide +kernel
theorem d_Le_dropPaid_17 : decode prog_3_method_8_code 17 = .ok (.iaload, 1) := by decide +kernel
theorem d_Le_dropPaid_18 : decode prog_3_method_8_code 18 = .ok (.ifCond .le 54, 3) := by decide +kernel
theorem d_Le_dropPaid_21 : decode prog_3_method_8_code 21 = .ok (.aload_n 0, 1) := by decide +kernel
theorem d_Le_dropPaid_22 : decode prog_3_method_8_code 22 = .ok (.getfield 15, 3) := by decide +kernel
theorem d_Le_dropPaid_25 : decode prog_3_method_8_code 25 = .ok (.iload_n 1, 1) := by decide +kernel
theorem d_Le_dropPaid_26 : decode prog_3_method_8_code 26 = .ok (.aload_n 0, 1) := by decide +kernel
theorem d_Le_dropPaid_27 : decode prog_3_method_8_code 27 = .ok (.getfield 15, 3) := by decide +kernel
theorem d_Le_dropPaid_30 : decode prog_3_method_8_code 30 = .ok (.iload_n 2, 1) := by decide +kernel
theorem d_Le_dropPaid_31 : decode prog_3_method_8_code 31 = .ok (.iaload, 1) := by decide +kernel
theorem d_Le_dropPaid_32 : decode prog_3_method_8_code 32 = .ok (.iastore, 1) := by decide +kernel
theorem d_Le_dropPaid_33 : decode prog_3_method_8_code 33 = .ok (.aload_n 0, 1) := by decide +kernel
theorem d_Le_dropPaid_34 : decode prog_3_method_8_code 34 = .ok (.getfield 18, 3) := by decide +kernel
theorem d_Le_dropPaid_37 : decode prog_3_method_8_code 37 = .ok (.iload_n 1, 1) := by decide +kernel
theorem d_Le_dropPaid_38 : decode prog_3_method_8_code 38 = .ok (.aload_n 0, 1) := by decide +kernel
theorem d_Le_dropPaid_39 : decode prog_3_method_8_code 39 = .ok (.getfield 18, 3) := by decide +kernel
theorem d_Le_dropPaid_42 : decode prog_3_method_8_code 42 = .ok (.iload_n 2, 1) := by decide +kernel
theorem d_Le_dropPaid_43 : decode prog_3_method_8_code 43 = .ok (.iaload, 1) := by decide +kernel
theorem d_Le_dropPaid_44 : decode prog_3_method_8_code 44 = .ok (.iastore, 1) := by decide +kernel
theorem d_Le_dropPaid_45 : decode prog_3_method_8_code 45 = .ok (.aload_n 0, 1) := by decide +kernel
theorem d_Le_dropPaid_46 : decode prog_3_method_8_code 46 = .ok (.getfield 21, 3) := by decide +kernel
theorem d_Le_dropPaid_49 : decode prog_3_method_8_code 49 = .ok (.iload_n 1, 1) := by decide +kernel
theorem d_Le_dropPaid_50 : decode prog_3_method_8_code 50 = .ok (.aload_n 0, 1) := by decide +kernel
theorem d_Le_dropPaid_51 : decode prog_3_method_8_code 51 = .ok (.getfield 21, 3) := by decide +kernel
theorem d_Le_dropPaid_54 : decode prog_3_method_8_code 54 = .ok (.iload_n 2, 1) := by decide +kernel
theorem d_Le_dropPaid_55 : decode prog_3_method_8_code 55 = .ok (.iaload, 1) := by decide +kernel
theorem d_Le_dropPaid_56 : decode prog_3_method_8_code 56 = .ok (.iastore, 1) := by decide +kernel
theorem d_Le_dropPaid_57 : decode prog_3_method_8_code 57 = .ok (.aload_n 0, 1) := by decide +kernel
theorem d_Le_dropPaid_58 : decode prog_3_method_8_code 58 = .ok (.getfield 24, 3) := by decide +kernel
theorem d_Le_dropPaid_61 : decode prog_3_method_8_code 61 = .ok (.iload_n 1, 1) := by decide +kernel
theorem d_Le_dropPaid_62 : decode prog_3_method_8_code 62 = .ok (.aload_n 0, 1) := by decide +kernel
theorem d_Le_dropPaid_63 : decode prog_3_method_8_code 63 = .ok (.getfield 24, 3) := by decide +kernel
theorem d_Le_dropPaid_66 : decode prog_3_method_8_code 66 = .ok (.iload_n 2, 1) := by decide +kernel
theorem d_Le_dropPaid_67 : decode prog_3_method_8_code 67 = .ok (.iaload, 1) := by decide +kernel
theorem d_Le_dropPaid_68 : decode prog_3_method_8_code 68 = .ok (.iastore, 1) := by decide +kernel
theorem d_Le_dropPaid_69 : decode prog_3_method_8_code 69 = .ok (.iinc 1 1, 3) := by decide +kernel
theorem d_Le_dropPaid_72 : decode prog_3_method_8_code 72 = .ok (.iinc 2 1, 3) := by decide +kernel
theorem d_Le_dropPaid_75 : decode prog_3_method_8_code 75 = .ok (.goto (-71), 3) := by decide +kernel
theorem d_Le_dropPaid_78 : decode prog_3_method_8_code 78 = .ok (.aload_n 0, 1) := by decide +kernel
theorem d_Le_dropPaid_79 : decode prog_3_method_8_code 79 = .ok (.iload_n 1, 1) := by decide +kernel
theorem d_Le_dropPaid_80 : decode prog_3_method_8_code 80 = .ok (.putfield 33, 3) := by decide +kernel
theorem d_Le_dropPaid_83 : decode prog_3_method_8_code 83 = .ok (.return_, 1) := by decide +kernel
def w_Le_dropPaid {d : Nat} (hd : 1 ≤ d) := (show SS ("DebtDoors$Ledger", prog_3_method_8_code, 3) (none) d 0 0 0 0 _ from (sS (p1 := 2) (sIn 1 (xE (rI d_Le_dropPaid_0 rfl)) d_Le_dropPaid_1 rfl (by decide)) (sS (p1 := 78) (sS (p1 := 4) (sIn 2 (xE (rI d_Le_dropPaid_2 rfl)) d_Le_dropPaid_3 rfl (by decide)) (sLp (ps := 72) (tt := 12) (pn := 78) (p1 := 0) (p2 := 0) (xC (rNot (rJ2 (tgt := 78) j_ge (rIn 2 d_Le_dropPaid_4 rfl) (rF 5 fl_Le_33 nk_1_5 (rAn 0 d_Le_dropPaid_5 rfl) d_Le_dropPaid_6 rfl) d_Le_dropPaid_9 (by decide)))) (sIf (pn := 72) (tt := 21) (xC (rNot (rJ1 (tgt := 72) k_le (rIa (rFr fl_Le_21 nk_1_3 (rAn 0 d_Le_dropPaid_12 rfl) d_Le_dropPaid_13) (rIn 2 d_Le_dropPaid_16 rfl) d_Le_dropPaid_17) d_Le_dropPaid_18 (by decide)))) (sS (p1 := 33) (sAs (rFr fl_Le_15 nk_1_1 (rAn 0 d_Le_dropPaid_21 rfl) d_Le_dropPaid_22) (rIn 1 d_Le_dropPaid_25 rfl) (xE (rIa (rFr fl_Le_15 nk_1_1 (rAn 0 d_Le_dropPaid_26 rfl) d_Le_dropPaid_27) (rIn 2 d_Le_dropPaid_30 rfl) d_Le_dropPaid_31)) d_Le_dropPaid_32) (sS (p1 := 45) (sAs (rFr fl_Le_18 nk_1_2 (rAn 0 d_Le_dropPaid_33 rfl) d_Le_dropPaid_34) (rIn 1 d_Le_dropPaid_37 rfl) (xE (rIa (rFr fl_Le_18 nk_1_2 (rAn 0 d_Le_dropPaid_38 rfl) d_Le_dropPaid_39) (rIn 2 d_Le_dropPaid_42 rfl) d_Le_dropPaid_43)) d_Le_dropPaid_44) (sS (p1 := 57) (sAs (rFr fl_Le_21 nk_1_3 (rAn 0 d_Le_dropPaid_45 rfl) d_Le_dropPaid_46) (rIn 1 d_Le_dropPaid_49 rfl) (xE (rIa (rFr fl_Le_21 nk_1_3 (rAn 0 d_Le_dropPaid_50 rfl) d_Le_dropPaid_51) (rIn 2 d_Le_dropPaid_54 rfl) d_Le_dropPaid_55)) d_Le_dropPaid_56) (sS (p1 := 69) (sAs (rFr fl_Le_24 nk_1_4 (rAn 0 d_Le_dropPaid_57 rfl) d_Le_dropPaid_58) (rIn 1 d_Le_dropPaid_61 rfl) (xE (rIa (rFr fl_Le_24 nk_1_4 (rAn 0 d_Le_dropPaid_62 rfl) d_Le_dropPaid_63) (rIn 2 d_Le_dropPaid_66 rfl) d_Le_dropPaid_67)) d_Le_dropPaid_68) (sInc d_Le_dropPaid_69 (by decide))))))) (sGo (pn := 4) (sInc d_Le_dropPaid_72 (by decide)) d_Le_dropPaid_75 (by decide)))) (sS (p1 := 83) (sP 5 fl_Le_33 fp_1_5 nk_1_5 (rAn 0 d_Le_dropPaid_78 rfl) (xE (rIn 1 d_Le_dropPaid_79 rfl)) d_Le_dropPaid_80 rfl) (sRv d_Le_dropPaid_83 rfl)))))
theorem q_Le_dropPaid {d : Nat} (hd : 1 ≤ d) {μ : zMem} (h : 0 ≤ μ 2 5 ∧ μ 2 5 ≤ 16) : zSp d 0 0 y_Le_dropPaid zT0 [vr 2] μ zT0 (fun r μ' => r = none ∧ dbD μ' = dpL (dbD μ) ∧ (0 ≤ μ' 2 5 ∧ μ' 2 5 ≤ μ 2 5) ∧ μ' 2 6 = μ 2 6 ∧ zfc [2, 4, 5, 6, 7] μ μ') := by
  refine zSp.ss [vr 2, vx 0, vx 0] rfl (w_Le_dropPaid hd) rfl rfl ?_
  (try simp only [zit_e, Bool.and_eq_true, Bool.or_eq_true, Bool.not_eq_true', Bool.and_eq_false_iff, Bool.or_eq_false_iff, Bool.not_eq_false', zbe, zdt, zdf, zb2_p, zbp_0, zbp_1, zbp_inj, zbp_01, Bool.true_eq_false, Bool.false_eq_true, true_and, and_true, Decidable.not_not, Classical.not_not, implies_true, List.nil_append, List.cons_append, List.append_assoc, Option.some.injEq, Sum.inl.injEq, zSw_c, zSw_n]); (try simp only [zit_e, Bool.and_eq_true, Bool.or_eq_true, Bool.not_eq_true', Bool.and_eq_false_iff, Bool.or_eq_false_iff, Bool.not_eq_false', zbe, zdt, zdf, zb2_p, zbp_0, zbp_1, zbp_inj, zbp_01, Bool.true_eq_false, Bool.false_eq_true, true_and, and_true, Decidable.not_not, Classical.not_not, implies_true, List.nil_append, List.cons_append, List.append_assoc, Option.some.injEq, Sum.inl.injEq, zSw_c, zSw_n, zc_2]); (try simp only [zi_cs, zi_c0, zii_cs, zii_c0, zl_cs, zl_c0, zll_cs, zll_c0, zr_cs, zr_c0, zrr_cs, zrr_c0, zxs_cs, zxs_c0, zxx_cs, zxx_c0, zfree_c0, zfree_c1, zfree_cs, zfree_cz, zlong_i, zlong_r, zlong_x, zset_0, zset_s, true_and, and_true, Option.some.injEq, Sum.inl.injEq, Sum.inr.injEq, zb2_p, zbp_0, zbp_1, zbp_inj, zbp_01, Nat.zero_add, Nat.reduceAdd, implies_true, List.nil_append, List.cons_append, List.append_assoc, Int.not_lt, Int.not_le, Decidable.not_not, Int.zero_add, Int.reduceLE, Int.reduceLT, Int.reduceEq, Int.reduceNe, Int.reduceAdd, Int.reduceSub, Int.reduceMul, Int.reduceNeg, Int.reduceToNat, Nat.reduceMul, Nat.reduceLT, Nat.reduceEqDiff, and_self, ite_true, ite_false, zx1, zx2, zRecv, List.length_cons, List.length_nil, ne_eq, not_true_eq_false, not_false_eq_true, true_or, or_true, or_false, false_or, and_false, false_and, zf01, zf10, reduceCtorEq, zSw_c, zSw_n, zm_r, zit_T, zit_F, false_implies, true_implies, zc_2])
  refine zLoop.up (μ 2 5).toNat (fun j ρ μ1 => ∃ k : Nat, ρ = [vr 2, vi k, vi j] ∧ tL k (fD μ1) = dpL (tL j (fD μ)) ∧ (∀ i : Int, j ≤ i → fD μ1 i = fD μ i) ∧ zfc [4, 5, 6, 7] μ μ1) ⟨0, rfl, rfl, fun _ _ => rfl, zfc.rf⟩ ?_
  rintro j ρ μ1 hj ⟨k, rfl, hk, hr, hf⟩
  have h2 : μ1 2 = μ 2 := hf 2 (by decide)
  have hkl : k = (dpL (tL j (fD μ))).length := by rw [← hk, tL_len]
  have hkj : k ≤ j := hkl ▸ dpL_len
  have hrj := hr j (Int.le_refl _)
  have hs := dpL_s (n := j) (f := fD μ)
  (try simp only [zit_e, Bool.and_eq_true, Bool.or_eq_true, Bool.not_eq_true', Bool.and_eq_false_iff, Bool.or_eq_false_iff, Bool.not_eq_false', zbe, zdt, zdf, zb2_p, zbp_0, zbp_1, zbp_inj, zbp_01, Bool.true_eq_false, Bool.false_eq_true, true_and, and_true, Decidable.not_not, Classical.not_not, implies_true, List.nil_append, List.cons_append, List.append_assoc, Option.some.injEq, Sum.inl.injEq, zSw_c, zSw_n]); (try simp only [zit_e, Bool.and_eq_true, Bool.or_eq_true, Bool.not_eq_true', Bool.and_eq_false_iff, Bool.or_eq_false_iff, Bool.not_eq_false', zbe, zdt, zdf, zb2_p, zbp_0, zbp_1, zbp_inj, zbp_01, Bool.true_eq_false, Bool.false_eq_true, true_and, and_true, Decidable.not_not, Classical.not_not, implies_true, List.nil_append, List.cons_append, List.append_assoc, Option.some.injEq, Sum.inl.injEq, zSw_c, zSw_n, zc_2]); (try simp only [zi_cs, zi_c0, zii_cs, zii_c0, zl_cs, zl_c0, zll_cs, zll_c0, zr_cs, zr_c0, zrr_cs, zrr_c0, zxs_cs, zxs_c0, zxx_cs, zxx_c0, zfree_c0, zfree_c1, zfree_cs, zfree_cz, zlong_i, zlong_r, zlong_x, zset_0, zset_s, true_and, and_true, Option.some.injEq, Sum.inl.injEq, Sum.inr.injEq, zb2_p, zbp_0, zbp_1, zbp_inj, zbp_01, Nat.zero_add, Nat.reduceAdd, implies_true, List.nil_append, List.cons_append, List.append_assoc, Int.not_lt, Int.not_le, Decidable.not_not, Int.zero_add, Int.reduceLE, Int.reduceLT, Int.reduceEq, Int.reduceNe, Int.reduceAdd, Int.reduceSub, Int.reduceMul, Int.reduceNeg, Int.reduceToNat, Nat.reduceMul, Nat.reduceLT, Nat.reduceEqDiff, and_self, ite_true, ite_false, zx1, zx2, zRecv, List.length_cons, List.length_nil, ne_eq, not_true_eq_false, not_false_eq_true, true_or, or_true, or_false, false_or, and_false, false_and, zf01, zf10, reduceCtorEq, zSw_c, zSw_n, zm_r, zit_T, zit_F, false_implies, true_implies, zc_2])
  rw [h2]
  refine zif (fun c => ?_) (fun c => ?_)
  · have ha : μ1 6 j = μ 6 j := congrArg (fun x : D4 => x.2.2.1) hrj
    refine ⟨by omega, ?_⟩
    refine zif (fun e => ?_) (fun e => ?_)
    · rw [if_pos (show 0 < μ 6 j by rw [← ha]; exact e)] at hs
      refine ⟨by omega, by omega, by omega, by omega, by omega, by omega, by omega, by omega, by omega, by omega, by omega, by omega, by ((try simp only [zI_e]); (first | done | omega | skip)), by ((try simp only [zI_e]); (first | done | omega | skip)), znx (by omega) ⟨k + 1, rfl, ?_, ?_, ?_⟩⟩
      · rw [hs, tL_succ, ← hk]
        congr 1
        · refine tL_congr (fun i h0 h1 => ?_)
          unfold fD
          simp only [zm_r, zit_T, zit_F, Nat.reduceEqDiff]
          (repeat (first | rw [zit_f (by omega)] | rw [zit_t (by omega)]))
        · unfold fD
          simp only [zm_r, zit_T, zit_F, Nat.reduceEqDiff]
          exact congrArg (fun x => [x]) hrj
      · intro i hi
        refine Eq.trans ?_ (hr i (by omega))
        unfold fD
        simp only [zm_r, zit_T, zit_F, Nat.reduceEqDiff]
        (repeat (first | rw [zit_f (by omega)] | rw [zit_t (by omega)]))
      · exact (((hf.zm (by decide)).zm (by decide)).zm (by decide)).zm (by decide)
    · rw [if_neg (show ¬ 0 < μ 6 j by rw [← ha]; exact e), List.append_nil] at hs
      exact ⟨by ((try simp only [zI_e]); (first | done | omega | skip)), znx (by omega) ⟨k, rfl, by rw [hs]; exact hk, fun i hi => hr i (by omega), hf⟩⟩
  · have ej : j = (μ 2 5).toNat := by omega
    subst ej
    refine ⟨?_, by omega, rfl, (zfc.mo hf (by simp)).zm (by decide)⟩
    refine (dbD_eq (n := k) (f := fD μ1) (by simp only [zm_r, zit_T]) (fun i _ _ => ?_)).trans ?_
    · unfold fD
      simp only [zm_r, zit_F, Nat.reduceEqDiff]
    · exact hk

