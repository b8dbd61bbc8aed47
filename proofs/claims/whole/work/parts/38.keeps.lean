/-- what can be undone, in the reference: rows of 74 -/
def rwM (μ : zMem) (q : Nat) (i : Int) : List Int := tL 74 (fun k => μ q (74 * i + k))
def unM (μ : zMem) : List (List Int) := tL (μ 355 28).toNat (rwM μ 369)
def kpL (U : List (List Int)) (x : List Int) : List (List Int) := (if U.length = 16 then U.tail else U) ++ [x]
theorem tL_tail {α : Type} {n : Nat} {f g : Int → α} (h : ∀ i : Int, 0 ≤ i → i < (n : Int) - 1 → g i = f (i + 1)) : tL (n - 1) g = (tL n f).tail := by
  cases n with
  | zero => rfl
  | succ n =>
    have := tL_erase (d := 0) (n := n + 1) (f := f) (g := g) (by omega) (fun i h0 h1 => by omega) (fun i h0 h1 => h i (by omega) (by omega))
    rw [this]
    cases tL (n + 1) f <;> rfl
theorem unM_push {μ1 μ2 : zMem} {c w : Int} (hc : 0 ≤ c ∧ c ≤ 15) (h1 : μ2 355 28 = c + 1) (h2 : ∀ y, μ2 369 y = zit (y = 74 * c + 73) w (zit (74 * c ≤ y ∧ y < 74 * c + 73) (μ1 357 (y - 74 * c)) (μ1 369 y))) : unM μ2 = tL c.toNat (rwM μ1 369) ++ [tL 73 (μ1 357) ++ [w]] := by
  unfold unM
  rw [h1, tL_app hc.1]
  congr 1
  · refine tL_congr (fun i h0 h9 => ?_)
    refine tL_congr (fun k h3 h4 => ?_)
    rw [h2]
    (repeat (first | rw [zit_f (by omega)] | rw [zit_t (by omega)]))
  · congr 1
    unfold rwM
    rw [tL_succ]
    congr 1
    · refine tL_congr (fun k h3 h4 => ?_)
      rw [h2]
      (repeat (first | rw [zit_f (by omega)] | rw [zit_t (by omega)]))
      congr 1
      omega
    · rw [h2]
      (repeat (first | rw [zit_f (by omega)] | rw [zit_t (by omega)]))
theorem nk_12_26 : zNk 12 26 = none := rfl
def y_M_keeps : zMt := (⟨"DebtDoorsModel", "keeps", "(I)V"⟩, prog_14_method_84_code, 4, none)
theorem d_M_keeps_0 : decode prog_14_method_84_code 0 = .ok (.bipush 74, 2) := by decide +kernel
theorem d_M_keeps_2 : decode prog_14_method_84_code 2 = .ok (.istore_n 2, 1) := by decide +kernel
theorem d_M_keeps_3 : decode prog_14_method_84_code 3 = .ok (.aload_n 0, 1) := by decide +kernel
theorem d_M_keeps_4 : decode prog_14_method_84_code 4 = .ok (.getfield 11, 3) := by decide +kernel
theorem d_M_keeps_7 : decode prog_14_method_84_code 7 = .ok (.bipush 16, 2) := by decide +kernel
theorem d_M_keeps_9 : decode prog_14_method_84_code 9 = .ok (.if_icmp .ne 43, 3) := by decide +kernel
theorem d_M_keeps_12 : decode prog_14_method_84_code 12 = .ok (.iconst 0, 1) := by decide +kernel
theorem d_M_keeps_13 : decode prog_14_method_84_code 13 = .ok (.istore_n 3, 1) := by decide +kernel
theorem d_M_keeps_14 : decode prog_14_method_84_code 14 = .ok (.iload_n 3, 1) := by decide +kernel
theorem d_M_keeps_15 : decode prog_14_method_84_code 15 = .ok (.bipush 15, 2) := by decide +kernel
theorem d_M_keeps_17 : decode prog_14_method_84_code 17 = .ok (.iload_n 2, 1) := by decide +kernel
theorem d_M_keeps_18 : decode prog_14_method_84_code 18 = .ok (.imul, 1) := by decide +kernel
theorem d_M_keeps_19 : decode prog_14_method_84_code 19 = .ok (.if_icmp .ge 23, 3) := by decide +kernel
theorem d_M_keeps_22 : decode prog_14_method_84_code 22 = .ok (.aload_n 0, 1) := by decide +kernel
theorem d_M_keeps_23 : decode prog_14_method_84_code 23 = .ok (.getfield 65, 3) := by decide +kernel
theorem d_M_keeps_26 : decode prog_14_method_84_code 26 = .ok (.iload_n 3, 1) := by decide +kernel
theorem d_M_keeps_27 : decode prog_14_method_84_code 27 = .ok (.aload_n 0, 1) := by decide +kernel
theorem d_M_keeps_28 : decode prog_14_method_84_code 28 = .ok (.getfield 65, 3) := by decide +kernel
theorem d_M_keeps_31 : decode prog_14_method_84_code 31 = .ok (.iload_n 3, 1) := by decide +kernel
theorem d_M_keeps_32 : decode prog_14_method_84_code 32 = .ok (.iload_n 2, 1) := by decide +kernel
theorem d_M_keeps_33 : decode prog_14_method_84_code 33 = .ok (.iadd, 1) := by decide +kernel
theorem d_M_keeps_34 : decode prog_14_method_84_code 34 = .ok (.iaload, 1) := by decide +kernel
theorem d_M_keeps_35 : decode prog_14_method_84_code 35 = .ok (.iastore, 1) := by decide +kernel
theorem d_M_keeps_36 : decode prog_14_method_84_code 36 = .ok (.iinc 3 1, 3) := by decide +kernel
theorem d_M_keeps_39 : decode prog_14_method_84_code 39 = .ok (.goto (-25), 3) := by decide +kernel
theorem d_M_keeps_42 : decode prog_14_method_84_code 42 = .ok (.aload_n 0, 1) := by decide +kernel
theorem d_M_keeps_43 : decode prog_14_method_84_code 43 = .ok (.dup, 1) := by decide +kernel
theorem d_M_keeps_44 : decode prog_14_method_84_code 44 = .ok (.getfield 11, 3) := by decide +kernel
theorem d_M_keeps_47 : decode prog_14_method_84_code 47 = .ok (.iconst 1, 1) := by decide +kernel
theorem d_M_keeps_48 : decode prog_14_method_84_code 48 = .ok (.isub, 1) := by decide +kernel
theorem d_M_keeps_49 : decode prog_14_method_84_code 49 = .ok (.putfield 11, 3) := by decide +kernel
theorem d_M_keeps_52 : decode prog_14_method_84_code 52 = .ok (.iconst 0, 1) := by decide +kernel
theorem d_M_keeps_53 : decode prog_14_method_84_code 53 = .ok (.istore_n 3, 1) := by decide +kernel
theorem d_M_keeps_54 : decode prog_14_method_84_code 54 = .ok (.iload_n 3, 1) := by decide +kernel
theorem d_M_keeps_55 : decode prog_14_method_84_code 55 = .ok (.bipush 73, 2) := by decide +kernel
theorem d_M_keeps_57 : decode prog_14_method_84_code 57 = .ok (.if_icmp .ge 28, 3) := by decide +kernel
theorem d_M_keeps_60 : decode prog_14_method_84_code 60 = .ok (.aload_n 0, 1) := by decide +kernel
theorem d_M_keeps_61 : decode prog_14_method_84_code 61 = .ok (.getfield 65, 3) := by decide +kernel
theorem d_M_keeps_64 : decode prog_14_method_84_code 64 = .ok (.iload_n 2, 1) := by decide +kernel
theorem d_M_keeps_65 : decode prog_14_method_84_code 65 = .ok (.aload_n 0, 1) := by decide +kernel
theorem d_M_keeps_66 : decode prog_14_method_84_code 66 = .ok (.getfield 11, 3) := by decide +kernel
theorem d_M_keeps_69 : decode prog_14_method_84_code 69 = .ok (.imul, 1) := by decide +kernel
theorem d_M_keeps_70 : decode prog_14_method_84_code 70 = .ok (.iload_n 3, 1) := by decide +kernel
theorem d_M_keeps_71 : decode prog_14_method_84_code 71 = .ok (.iadd, 1) := by decide +kernel
theorem d_M_keeps_72 : decode prog_14_method_84_code 72 = .ok (.aload_n 0, 1) := by decide +kernel
theorem d_M_keeps_73 : decode prog_14_method_84_code 73 = .ok (.getfield 24, 3) := by decide +kernel
theorem d_M_keeps_76 : decode prog_14_method_84_code 76 = .ok (.iload_n 3, 1) := by decide +kernel
theorem d_M_keeps_77 : decode prog_14_method_84_code 77 = .ok (.iaload, 1) := by decide +kernel
theorem d_M_keeps_78 : decode prog_14_method_84_code 78 = .ok (.iastore, 1) := by decide +kernel
theorem d_M_keeps_79 : decode prog_14_method_84_code 79 = .ok (.iinc 3 1, 3) := by decide +kernel
theorem d_M_keeps_82 : decode prog_14_method_84_code 82 = .ok (.goto (-28), 3) := by decide +kernel
theorem d_M_keeps_85 : decode prog_14_method_84_code 85 = .ok (.aload_n 0, 1) := by decide +kernel
theorem d_M_keeps_86 : decode prog_14_method_84_code 86 = .ok (.getfield 65, 3) := by decide +kernel
theorem d_M_keeps_89 : decode prog_14_method_84_code 89 = .ok (.iload_n 2, 1) := by decide +kernel
theorem d_M_keeps_90 : decode prog_14_method_84_code 90 = .ok (.aload_n 0, 1) := by decide +kernel
theorem d_M_keeps_91 : decode prog_14_method_84_code 91 = .ok (.getfield 11, 3) := by decide +kernel
theorem d_M_keeps_94 : decode prog_14_method_84_code 94 = .ok (.imul, 1) := by decide +kernel
theorem d_M_keeps_95 : decode prog_14_method_84_code 95 = .ok (.bipush 73, 2) := by decide +kernel
theorem d_M_keeps_97 : decode prog_14_method_84_code 97 = .ok (.iadd, 1) := by decide +kernel
theorem d_M_keeps_98 : decode prog_14_method_84_code 98 = .ok (.iload_n 1, 1) := by decide +kernel
theorem d_M_keeps_99 : decode prog_14_method_84_code 99 = .ok (.iastore, 1) := by decide +kernel
theorem d_M_keeps_100 : decode prog_14_method_84_code 100 = .ok (.aload_n 0, 1) := by decide +kernel
theorem d_M_keeps_101 : decode prog_14_method_84_code 101 = .ok (.dup, 1) := by decide +kernel
theorem d_M_keeps_102 : decode prog_14_method_84_code 102 = .ok (.getfield 11, 3) := by decide +kernel
theorem d_M_keeps_105 : decode prog_14_method_84_code 105 = .ok (.iconst 1, 1) := by decide +kernel
theorem d_M_keeps_106 : decode prog_14_method_84_code 106 = .ok (.iadd, 1) := by decide +kernel
theorem d_M_keeps_107 : decode prog_14_method_84_code 107 = .ok (.putfield 11, 3) := by decide +kernel
theorem d_M_keeps_110 : decode prog_14_method_84_code 110 = .ok (.return_, 1) := by decide +kernel
def w_M_keeps {d : Nat} (hd : 1 ≤ d) := (show SS ("DebtDoorsModel", prog_14_method_84_code, 4) (none) d 0 0 0 0 _ from (sS (p1 := 3) (sIn 2 (xE (rB d_M_keeps_0 rfl)) d_M_keeps_2 rfl (by decide)) (sS (p1 := 52) (sIf (pn := 52) (tt := 12) (xC (rNot (rJ2 (tgt := 52) j_ne (rF 28 fl_M_11 nk_12_28 (rAn 0 d_M_keeps_3 rfl) d_M_keeps_4 rfl) (rB d_M_keeps_7 rfl) d_M_keeps_9 (by decide)))) (sS (p1 := 42) (sS (p1 := 14) (sIn 3 (xE (rI d_M_keeps_12 rfl)) d_M_keeps_13 rfl (by decide)) (sLp (ps := 36) (tt := 22) (pn := 42) (p1 := 0) (p2 := 0) (xC (rNot (rJ2 (tgt := 42) j_ge (rIn 3 d_M_keeps_14 rfl) (r2 o_mul (rB d_M_keeps_15 rfl) (rIn 2 d_M_keeps_17 rfl) d_M_keeps_18) d_M_keeps_19 (by decide)))) (sAs (rFr fl_M_65 nk_12_26 (rAn 0 d_M_keeps_22 rfl) d_M_keeps_23) (rIn 3 d_M_keeps_26 rfl) (xE (rIa (rFr fl_M_65 nk_12_26 (rAn 0 d_M_keeps_27 rfl) d_M_keeps_28) (r2 o_add (rIn 3 d_M_keeps_31 rfl) (rIn 2 d_M_keeps_32 rfl) d_M_keeps_33) d_M_keeps_34)) d_M_keeps_35) (sGo (pn := 14) (sInc d_M_keeps_36 (by decide)) d_M_keeps_39 (by decide)))) (sPo 28 o_sub fl_M_11 fp_12_28 nk_12_28 (rAn 0 d_M_keeps_42 rfl) d_M_keeps_43 d_M_keeps_44 (rI d_M_keeps_47 rfl) d_M_keeps_48 d_M_keeps_49 rfl))) (sS (p1 := 85) (sS (p1 := 54) (sIn 3 (xE (rI d_M_keeps_52 rfl)) d_M_keeps_53 rfl (by decide)) (sLp (ps := 79) (tt := 60) (pn := 85) (p1 := 0) (p2 := 0) (xC (rNot (rJ2 (tgt := 85) j_ge (rIn 3 d_M_keeps_54 rfl) (rB d_M_keeps_55 rfl) d_M_keeps_57 (by decide)))) (sAs (rFr fl_M_65 nk_12_26 (rAn 0 d_M_keeps_60 rfl) d_M_keeps_61) (r2 o_add (r2 o_mul (rIn 2 d_M_keeps_64 rfl) (rF 28 fl_M_11 nk_12_28 (rAn 0 d_M_keeps_65 rfl) d_M_keeps_66 rfl) d_M_keeps_69) (rIn 3 d_M_keeps_70 rfl) d_M_keeps_71) (xE (rIa (rFr fl_M_24 nk_12_2 (rAn 0 d_M_keeps_72 rfl) d_M_keeps_73) (rIn 3 d_M_keeps_76 rfl) d_M_keeps_77)) d_M_keeps_78) (sGo (pn := 54) (sInc d_M_keeps_79 (by decide)) d_M_keeps_82 (by decide)))) (sS (p1 := 100) (sAs (rFr fl_M_65 nk_12_26 (rAn 0 d_M_keeps_85 rfl) d_M_keeps_86) (r2 o_add (r2 o_mul (rIn 2 d_M_keeps_89 rfl) (rF 28 fl_M_11 nk_12_28 (rAn 0 d_M_keeps_90 rfl) d_M_keeps_91 rfl) d_M_keeps_94) (rB d_M_keeps_95 rfl) d_M_keeps_97) (xE (rIn 1 d_M_keeps_98 rfl)) d_M_keeps_99) (sS (p1 := 110) (sPo 28 o_add fl_M_11 fp_12_28 nk_12_28 (rAn 0 d_M_keeps_100 rfl) d_M_keeps_101 d_M_keeps_102 (rI d_M_keeps_105 rfl) d_M_keeps_106 d_M_keeps_107 rfl) (sRv d_M_keeps_110 rfl)))))))
set_option maxRecDepth 20000 in
theorem q_M_keeps {d : Nat} (hd : 1 ≤ d) {μ : zMem} {w : Int} (hn : 0 ≤ μ 355 28 ∧ μ 355 28 ≤ 16) : zSp d 0 0 y_M_keeps zT0 [vr 355, vi w] μ zT0 (fun r μ' => r = none ∧ unM μ' = kpL (unM μ) (tL 73 (μ 357) ++ [w]) ∧ (0 ≤ μ' 355 28 ∧ μ' 355 28 ≤ 16) ∧ (∀ j : Int, j ≠ 28 → μ' 355 j = μ 355 j) ∧ zfc [355, 369] μ μ') := by
  refine zSp.ss [vr 355, vi w, vx 0, vx 0] rfl (w_M_keeps hd) rfl rfl ?_
  obtain ⟨N, hN⟩ : ∃ N : Nat, N = 1110 := ⟨_, rfl⟩
  (try simp only [zit_e, Bool.and_eq_true, Bool.or_eq_true, Bool.not_eq_true', Bool.and_eq_false_iff, Bool.or_eq_false_iff, Bool.not_eq_false', zbe, zdt, zdf, zb2_p, zbp_0, zbp_1, zbp_inj, zbp_01, Bool.true_eq_false, Bool.false_eq_true, true_and, and_true, Decidable.not_not, Classical.not_not, implies_true, List.nil_append, List.cons_append, List.append_assoc, Option.some.injEq, Sum.inl.injEq, zSw_c, zSw_n]); (try simp only [zit_e, Bool.and_eq_true, Bool.or_eq_true, Bool.not_eq_true', Bool.and_eq_false_iff, Bool.or_eq_false_iff, Bool.not_eq_false', zbe, zdt, zdf, zb2_p, zbp_0, zbp_1, zbp_inj, zbp_01, Bool.true_eq_false, Bool.false_eq_true, true_and, and_true, Decidable.not_not, Classical.not_not, implies_true, List.nil_append, List.cons_append, List.append_assoc, Option.some.injEq, Sum.inl.injEq, zSw_c, zSw_n, zc_355]); (try simp only [zi_cs, zi_c0, zii_cs, zii_c0, zl_cs, zl_c0, zll_cs, zll_c0, zr_cs, zr_c0, zrr_cs, zrr_c0, zxs_cs, zxs_c0, zxx_cs, zxx_c0, zfree_c0, zfree_c1, zfree_cs, zfree_cz, zlong_i, zlong_r, zlong_x, zset_0, zset_s, true_and, and_true, Option.some.injEq, Sum.inl.injEq, Sum.inr.injEq, zb2_p, zbp_0, zbp_1, zbp_inj, zbp_01, Nat.zero_add, Nat.reduceAdd, implies_true, List.nil_append, List.cons_append, List.append_assoc, Int.not_lt, Int.not_le, Decidable.not_not, Int.zero_add, Int.reduceLE, Int.reduceLT, Int.reduceEq, Int.reduceNe, Int.reduceAdd, Int.reduceSub, Int.reduceMul, Int.reduceNeg, Int.reduceToNat, Nat.reduceMul, Nat.reduceLT, Nat.reduceEqDiff, and_self, ite_true, ite_false, zx1, zx2, zRecv, List.length_cons, List.length_nil, ne_eq, not_true_eq_false, not_false_eq_true, true_or, or_true, or_false, false_or, and_false, false_and, zf01, zf10, reduceCtorEq, zSw_c, zSw_n, zm_r, zit_T, zit_F, false_implies, true_implies, zc_355])
  refine zif (fun c => ?_) (fun c => ?_)
  · refine zLoop.up N (fun j ρ μ1 => ρ = [vr 355, vi w, vi 74, vi j] ∧ (∀ y, μ1 369 y = zit (0 ≤ y ∧ y < j) (μ 369 (y + 74)) (μ 369 y)) ∧ zfc [369] μ μ1) ⟨rfl, fun y => by rw [zit_f (by omega)], zfc.rf⟩ ?_
    rintro j ρ μ1 hj ⟨rfl, hm, hf⟩
    (try simp only [zit_e, Bool.and_eq_true, Bool.or_eq_true, Bool.not_eq_true', Bool.and_eq_false_iff, Bool.or_eq_false_iff, Bool.not_eq_false', zbe, zdt, zdf, zb2_p, zbp_0, zbp_1, zbp_inj, zbp_01, Bool.true_eq_false, Bool.false_eq_true, true_and, and_true, Decidable.not_not, Classical.not_not, implies_true, List.nil_append, List.cons_append, List.append_assoc, Option.some.injEq, Sum.inl.injEq, zSw_c, zSw_n]); (try simp only [zit_e, Bool.and_eq_true, Bool.or_eq_true, Bool.not_eq_true', Bool.and_eq_false_iff, Bool.or_eq_false_iff, Bool.not_eq_false', zbe, zdt, zdf, zb2_p, zbp_0, zbp_1, zbp_inj, zbp_01, Bool.true_eq_false, Bool.false_eq_true, true_and, and_true, Decidable.not_not, Classical.not_not, implies_true, List.nil_append, List.cons_append, List.append_assoc, Option.some.injEq, Sum.inl.injEq, zSw_c, zSw_n, zc_355]); (try simp only [zi_cs, zi_c0, zii_cs, zii_c0, zl_cs, zl_c0, zll_cs, zll_c0, zr_cs, zr_c0, zrr_cs, zrr_c0, zxs_cs, zxs_c0, zxx_cs, zxx_c0, zfree_c0, zfree_c1, zfree_cs, zfree_cz, zlong_i, zlong_r, zlong_x, zset_0, zset_s, true_and, and_true, Option.some.injEq, Sum.inl.injEq, Sum.inr.injEq, zb2_p, zbp_0, zbp_1, zbp_inj, zbp_01, Nat.zero_add, Nat.reduceAdd, implies_true, List.nil_append, List.cons_append, List.append_assoc, Int.not_lt, Int.not_le, Decidable.not_not, Int.zero_add, Int.reduceLE, Int.reduceLT, Int.reduceEq, Int.reduceNe, Int.reduceAdd, Int.reduceSub, Int.reduceMul, Int.reduceNeg, Int.reduceToNat, Nat.reduceMul, Nat.reduceLT, Nat.reduceEqDiff, and_self, ite_true, ite_false, zx1, zx2, zRecv, List.length_cons, List.length_nil, ne_eq, not_true_eq_false, not_false_eq_true, true_or, or_true, or_false, false_or, and_false, false_and, zf01, zf10, reduceCtorEq, zSw_c, zSw_n, zm_r, zit_T, zit_F, false_implies, true_implies, zc_355])
    refine ⟨by ((try simp only [zI_e]); (first | done | omega | skip)), ?_⟩
    by_cases c2 : (j : Int) < 1110
    · rw [if_pos c2]
      refine ⟨by omega, by omega, by ((try simp only [zI_e]); (first | done | omega | skip)), by ((try simp only [zI_e]); (first | done | omega | skip)), znx (by omega) ⟨rfl, fun y => ?_, hf.zm (by decide)⟩⟩
      rw [hm, hm]
      by_cases ey : y = j
      · rw [zit_t ey, zit_f (by omega), zit_t (by omega), ey]
      · rw [zit_f ey]
        by_cases e2 : 0 ≤ y ∧ y < j
        · rw [zit_t e2, zit_t (by omega)]
        · rw [zit_f e2, zit_f (by omega)]
    · rw [if_neg c2]
      have h16 : μ1 355 28 = 16 := by rw [hf 355 (by decide)]; exact c
      rw [h16]
      have g28 : zm μ1 355 28 (16 - 1) 355 28 = 15 := by rw [zm_r, zit_t rfl, zit_t rfl]; rfl
      have g357 : zm μ1 355 28 (16 - 1) 357 = μ 357 := by rw [zm_off 357 (by decide)]; exact hf 357 (by decide)
      have g369 : ∀ y : Int, zm μ1 355 28 (16 - 1) 369 y = μ1 369 y := fun y => by rw [zm_off 369 (by decide)]
      have gz : ∀ i : Int, i ≠ 28 → zm μ1 355 28 (16 - 1) 355 i = μ 355 i := fun i hi => by rw [zm_r, zit_t rfl, zit_f hi, hf 355 (by decide)]
      have gf : zfc [355, 369] μ (zm μ1 355 28 (16 - 1)) := (hf.mo (b := [355, 369]) (by simp)).zm (by decide)
      generalize zm μ1 355 28 (16 - 1) = μa at *
      refine ⟨by ((try simp only [zI_e]); (first | done | omega | skip)), ?_⟩
      refine zLoop.up 73 (fun j ρ μ2 => ρ = [vr 355, vi w, vi 74, vi j] ∧ (∀ y, μ2 369 y = zit (74 * 15 ≤ y ∧ y < 74 * 15 + j) (μa 357 (y - 74 * 15)) (μa 369 y)) ∧ zfc [369] μa μ2) ⟨rfl, fun y => by rw [zit_f (by omega)], zfc.rf⟩ ?_
      rintro j ρ μ2 hj ⟨rfl, hm2, hf2⟩
      have e28 : μ2 355 28 = 15 := by rw [hf2 355 (by decide), g28]
      (try simp only [zit_e, Bool.and_eq_true, Bool.or_eq_true, Bool.not_eq_true', Bool.and_eq_false_iff, Bool.or_eq_false_iff, Bool.not_eq_false', zbe, zdt, zdf, zb2_p, zbp_0, zbp_1, zbp_inj, zbp_01, Bool.true_eq_false, Bool.false_eq_true, true_and, and_true, Decidable.not_not, Classical.not_not, implies_true, List.nil_append, List.cons_append, List.append_assoc, Option.some.injEq, Sum.inl.injEq, zSw_c, zSw_n]); (try simp only [zit_e, Bool.and_eq_true, Bool.or_eq_true, Bool.not_eq_true', Bool.and_eq_false_iff, Bool.or_eq_false_iff, Bool.not_eq_false', zbe, zdt, zdf, zb2_p, zbp_0, zbp_1, zbp_inj, zbp_01, Bool.true_eq_false, Bool.false_eq_true, true_and, and_true, Decidable.not_not, Classical.not_not, implies_true, List.nil_append, List.cons_append, List.append_assoc, Option.some.injEq, Sum.inl.injEq, zSw_c, zSw_n, zc_355]); (try simp only [zi_cs, zi_c0, zii_cs, zii_c0, zl_cs, zl_c0, zll_cs, zll_c0, zr_cs, zr_c0, zrr_cs, zrr_c0, zxs_cs, zxs_c0, zxx_cs, zxx_c0, zfree_c0, zfree_c1, zfree_cs, zfree_cz, zlong_i, zlong_r, zlong_x, zset_0, zset_s, true_and, and_true, Option.some.injEq, Sum.inl.injEq, Sum.inr.injEq, zb2_p, zbp_0, zbp_1, zbp_inj, zbp_01, Nat.zero_add, Nat.reduceAdd, implies_true, List.nil_append, List.cons_append, List.append_assoc, Int.not_lt, Int.not_le, Decidable.not_not, Int.zero_add, Int.reduceLE, Int.reduceLT, Int.reduceEq, Int.reduceNe, Int.reduceAdd, Int.reduceSub, Int.reduceMul, Int.reduceNeg, Int.reduceToNat, Nat.reduceMul, Nat.reduceLT, Nat.reduceEqDiff, and_self, ite_true, ite_false, zx1, zx2, zRecv, List.length_cons, List.length_nil, ne_eq, not_true_eq_false, not_false_eq_true, true_or, or_true, or_false, false_or, and_false, false_and, zf01, zf10, reduceCtorEq, zSw_c, zSw_n, zm_r, zit_T, zit_F, false_implies, true_implies, zc_355])
      refine zif (fun c2 => ?_) (fun c2 => ?_)
      · rw [e28]
        refine ⟨by ((try simp only [zI_e]); (first | done | omega | skip)), by omega, by omega, by omega, by ((try simp only [zI_e]); (first | done | omega | skip)), znx (by omega) ⟨rfl, fun y => ?_, hf2.zm (by decide)⟩⟩
        rw [hm2]
        by_cases ey : y = 74 * 15 + j
        · rw [zit_t ey, zit_t (by omega), hf2 357 (by decide), ey]
          congr 1
          omega
        · rw [zit_f ey]
          by_cases e2 : 74 * 15 ≤ y ∧ y < 74 * 15 + (j : Int)
          · rw [zit_t e2, zit_t (by omega)]
            rfl
          · rw [zit_f e2, zit_f (by omega)]
      · rw [e28]
        refine ⟨by ((try simp only [zI_e]); (first | done | omega | skip)), by omega, by omega, by ((try simp only [zI_e]); (first | done | omega | skip)), ?_, by omega, fun i hi => ?_, ?_⟩
        · rw [unM_push (μ1 := μa) (c := 15) (w := w) (by omega) (by rw [zm_r, zit_t rfl, zit_t rfl]) (fun y => ?_)]
          · rw [g357]
            unfold kpL unM
            rw [if_pos (by rw [tL_len, c]; rfl), c]
            congr 1
            refine tL_tail (n := 16) (fun i h0 h1 => ?_)
            refine tL_congr (fun k h3 h4 => ?_)
            rw [g369, hm, zit_t (by omega)]
            congr 1
            omega
          · simp only [zm_r, zit_T, zit_F, Nat.reduceEqDiff]
            rw [hm2 y, show ((j : Nat) : Int) = 73 by omega]
        · rw [zit_f hi, hf2 355 (by decide), gz i hi]
        · exact ((gf.tr hf2).mo (b := [355, 369]) (by simp)).zm (by decide) |>.zm (by decide)
  · have h28 : μ 355 28 = μ 355 28 := rfl
    refine zLoop.up 73 (fun j ρ μ2 => ρ = [vr 355, vi w, vi 74, vi j] ∧ (∀ y, μ2 369 y = zit (74 * μ 355 28 ≤ y ∧ y < 74 * μ 355 28 + j) (μ 357 (y - 74 * μ 355 28)) (μ 369 y)) ∧ zfc [369] μ μ2) ⟨rfl, fun y => by rw [zit_f (by omega)], zfc.rf⟩ ?_
    rintro j ρ μ2 hj ⟨rfl, hm2, hf2⟩
    have e28 : μ2 355 28 = μ 355 28 := by rw [hf2 355 (by decide)]
    (try simp only [zit_e, Bool.and_eq_true, Bool.or_eq_true, Bool.not_eq_true', Bool.and_eq_false_iff, Bool.or_eq_false_iff, Bool.not_eq_false', zbe, zdt, zdf, zb2_p, zbp_0, zbp_1, zbp_inj, zbp_01, Bool.true_eq_false, Bool.false_eq_true, true_and, and_true, Decidable.not_not, Classical.not_not, implies_true, List.nil_append, List.cons_append, List.append_assoc, Option.some.injEq, Sum.inl.injEq, zSw_c, zSw_n]); (try simp only [zit_e, Bool.and_eq_true, Bool.or_eq_true, Bool.not_eq_true', Bool.and_eq_false_iff, Bool.or_eq_false_iff, Bool.not_eq_false', zbe, zdt, zdf, zb2_p, zbp_0, zbp_1, zbp_inj, zbp_01, Bool.true_eq_false, Bool.false_eq_true, true_and, and_true, Decidable.not_not, Classical.not_not, implies_true, List.nil_append, List.cons_append, List.append_assoc, Option.some.injEq, Sum.inl.injEq, zSw_c, zSw_n, zc_355]); (try simp only [zi_cs, zi_c0, zii_cs, zii_c0, zl_cs, zl_c0, zll_cs, zll_c0, zr_cs, zr_c0, zrr_cs, zrr_c0, zxs_cs, zxs_c0, zxx_cs, zxx_c0, zfree_c0, zfree_c1, zfree_cs, zfree_cz, zlong_i, zlong_r, zlong_x, zset_0, zset_s, true_and, and_true, Option.some.injEq, Sum.inl.injEq, Sum.inr.injEq, zb2_p, zbp_0, zbp_1, zbp_inj, zbp_01, Nat.zero_add, Nat.reduceAdd, implies_true, List.nil_append, List.cons_append, List.append_assoc, Int.not_lt, Int.not_le, Decidable.not_not, Int.zero_add, Int.reduceLE, Int.reduceLT, Int.reduceEq, Int.reduceNe, Int.reduceAdd, Int.reduceSub, Int.reduceMul, Int.reduceNeg, Int.reduceToNat, Nat.reduceMul, Nat.reduceLT, Nat.reduceEqDiff, and_self, ite_true, ite_false, zx1, zx2, zRecv, List.length_cons, List.length_nil, ne_eq, not_true_eq_false, not_false_eq_true, true_or, or_true, or_false, false_or, and_false, false_and, zf01, zf10, reduceCtorEq, zSw_c, zSw_n, zm_r, zit_T, zit_F, false_implies, true_implies, zc_355])
    refine zif (fun c2 => ?_) (fun c2 => ?_)
    · rw [e28]
      refine ⟨by ((try simp only [zI_e]); (first | done | omega | skip)), by omega, by omega, by omega, by ((try simp only [zI_e]); (first | done | omega | skip)), znx (by omega) ⟨rfl, fun y => ?_, hf2.zm (by decide)⟩⟩
      rw [hm2]
      by_cases ey : y = 74 * μ 355 28 + j
      · rw [zit_t ey, zit_t (by omega), hf2 357 (by decide), ey]
        congr 1
        omega
      · rw [zit_f ey]
        by_cases e2 : 74 * μ 355 28 ≤ y ∧ y < 74 * μ 355 28 + j
        · rw [zit_t e2, zit_t (by omega)]
        · rw [zit_f e2, zit_f (by omega)]
    · rw [e28]
      refine ⟨by ((try simp only [zI_e]); (first | done | omega | skip)), by omega, by omega, by ((try simp only [zI_e]); (first | done | omega | skip)), ?_, by omega, fun i hi => ?_, ?_⟩
      · rw [unM_push (μ1 := μ) (c := μ 355 28) (w := w) (by omega) (by rw [zm_r, zit_t rfl, zit_t rfl]) (fun y => ?_)]
        · unfold kpL unM
          rw [if_neg (by rw [tL_len]; omega)]
        · simp only [zm_r, zit_T, zit_F, Nat.reduceEqDiff]
          rw [hm2 y, show ((j : Nat) : Int) = 73 by omega]
      · rw [zit_f hi, hf2 355 (by decide)]
      · exact ((hf2.mo (b := [355, 369]) (by simp)).zm (by decide)).zm (by decide)

