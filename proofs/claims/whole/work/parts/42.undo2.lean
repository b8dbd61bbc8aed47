def kpD (U : List (Lg × Int)) (x : Lg × Int) : List (Lg × Int) := (if U.length = 16 then U.tail else U) ++ [x]
theorem nk_10_1 : zNk 10 1 = none := rfl
theorem fp_10_2 : zFp 10 2 0 := ⟨_, rfl, rfl, rfl, by decide⟩
def y_Un_keep : zMt := (⟨"DebtDoors$Undo", "keep", "(I)V"⟩, prog_12_method_5_code, 2, none)
theorem d_Un_keep_0 : decode prog_12_method_5_code 0 = .ok (.aload_n 0, 1) := by decide +kernel
theorem d_Un_keep_1 : decode prog_12_method_5_code 1 = .ok (.getfield 17, 3) := by decide +kernel
theorem d_Un_keep_4 : decode prog_12_method_5_code 4 = .ok (.aload_n 0, 1) := by decide +kernel
theorem d_Un_keep_5 : decode prog_12_method_5_code 5 = .ok (.aload_n 0, 1) := by decide +kernel
theorem d_Un_keep_6 : decode prog_12_method_5_code 6 = .ok (.getfield 30, 3) := by decide +kernel
theorem d_Un_keep_9 : decode prog_12_method_5_code 9 = .ok (.invokevirtual 33, 3) := by decide +kernel
theorem d_Un_keep_12 : decode prog_12_method_5_code 12 = .ok (.iload_n 1, 1) := by decide +kernel
theorem d_Un_keep_13 : decode prog_12_method_5_code 13 = .ok (.iastore, 1) := by decide +kernel
theorem d_Un_keep_14 : decode prog_12_method_5_code 14 = .ok (.aload_n 0, 1) := by decide +kernel
theorem d_Un_keep_15 : decode prog_12_method_5_code 15 = .ok (.getfield 30, 3) := by decide +kernel
theorem d_Un_keep_18 : decode prog_12_method_5_code 18 = .ok (.bipush 16, 2) := by decide +kernel
theorem d_Un_keep_20 : decode prog_12_method_5_code 20 = .ok (.if_icmp .ge 16, 3) := by decide +kernel
theorem d_Un_keep_23 : decode prog_12_method_5_code 23 = .ok (.aload_n 0, 1) := by decide +kernel
theorem d_Un_keep_24 : decode prog_12_method_5_code 24 = .ok (.dup, 1) := by decide +kernel
theorem d_Un_keep_25 : decode prog_12_method_5_code 25 = .ok (.getfield 30, 3) := by decide +kernel
theorem d_Un_keep_28 : decode prog_12_method_5_code 28 = .ok (.iconst 1, 1) := by decide +kernel
theorem d_Un_keep_29 : decode prog_12_method_5_code 29 = .ok (.iadd, 1) := by decide +kernel
theorem d_Un_keep_30 : decode prog_12_method_5_code 30 = .ok (.putfield 30, 3) := by decide +kernel
theorem d_Un_keep_33 : decode prog_12_method_5_code 33 = .ok (.goto 12, 3) := by decide +kernel
theorem d_Un_keep_36 : decode prog_12_method_5_code 36 = .ok (.aload_n 0, 1) := by decide +kernel
theorem d_Un_keep_37 : decode prog_12_method_5_code 37 = .ok (.aload_n 0, 1) := by decide +kernel
theorem d_Un_keep_38 : decode prog_12_method_5_code 38 = .ok (.iconst 1, 1) := by decide +kernel
theorem d_Un_keep_39 : decode prog_12_method_5_code 39 = .ok (.invokevirtual 33, 3) := by decide +kernel
theorem d_Un_keep_42 : decode prog_12_method_5_code 42 = .ok (.putfield 22, 3) := by decide +kernel
theorem d_Un_keep_45 : decode prog_12_method_5_code 45 = .ok (.return_, 1) := by decide +kernel
def w_Un_keep {d : Nat} (hd : 2 ≤ d) := (show SS ("DebtDoors$Undo", prog_12_method_5_code, 2) (none) d 0 0 0 0 _ from (sS (p1 := 14) (sAs (rFr fl_Un_17 nk_10_1 (rAn 0 d_Un_keep_0 rfl) d_Un_keep_1) (rV p_Un_slot (Nat.le_trans (Nat.le_of_ble_eq_true rfl) hd) lv_Un_33 (rAi (rAr rA0 (rAn 0 d_Un_keep_4 rfl)) (rF 3 fl_Un_30 nk_10_3 (rAn 0 d_Un_keep_5 rfl) d_Un_keep_6 rfl)) (by decide) d_Un_keep_9) (xE (rIn 1 d_Un_keep_12 rfl)) d_Un_keep_13) (sS (p1 := 45) (sIe (pn := 45) (tt := 23) (ff := 36) (xC (rNot (rJ2 (tgt := 36) j_ge (rF 3 fl_Un_30 nk_10_3 (rAn 0 d_Un_keep_14 rfl) d_Un_keep_15 rfl) (rB d_Un_keep_18 rfl) d_Un_keep_20 (by decide)))) (sGo (pn := 45) (sPo 3 o_add fl_Un_30 fp_10_3 nk_10_3 (rAn 0 d_Un_keep_23 rfl) d_Un_keep_24 d_Un_keep_25 (rI d_Un_keep_28 rfl) d_Un_keep_29 d_Un_keep_30 rfl) d_Un_keep_33 (by decide)) (sP 2 fl_Un_22 fp_10_2 nk_10_2 (rAn 0 d_Un_keep_36 rfl) (xE (rV p_Un_slot (Nat.le_trans (Nat.le_of_ble_eq_true rfl) hd) lv_Un_33 (rAi (rAr rA0 (rAn 0 d_Un_keep_37 rfl)) (rI d_Un_keep_38 rfl)) (by decide) d_Un_keep_39)) d_Un_keep_42 rfl)) (sRv d_Un_keep_45 rfl))))
theorem q_Un_keep {d : Nat} (hd : 2 ≤ d) {μ : zMem} {w : Int} (hu : (0 ≤ μ 111 2 ∧ μ 111 2 < 17) ∧ 0 ≤ μ 111 3 ∧ μ 111 3 ≤ 16) : zSp d 0 0 y_Un_keep zT0 [vr 111, vi w] μ zT0 (fun r μ' => r = none ∧ unD μ' 111 = kpD (unD μ 111) (lgO μ (slC 111 (slI μ 111 (μ 111 3))), w) ∧ ((0 ≤ μ' 111 2 ∧ μ' 111 2 < 17) ∧ 0 ≤ μ' 111 3 ∧ μ' 111 3 ≤ 16) ∧ zfc [111, 113] μ μ') := by
  have hs := slI_in (μ := μ) (U := 111) (i := μ 111 3)
  refine zSp.ss [vr 111, vi w] rfl (w_Un_keep hd) rfl rfl ?_
  (try simp only [zit_e, Bool.and_eq_true, Bool.or_eq_true, Bool.not_eq_true', Bool.and_eq_false_iff, Bool.or_eq_false_iff, Bool.not_eq_false', zbe, zdt, zdf, zb2_p, zbp_0, zbp_1, zbp_inj, zbp_01, Bool.true_eq_false, Bool.false_eq_true, true_and, and_true, Decidable.not_not, Classical.not_not, implies_true, List.nil_append, List.cons_append, List.append_assoc, Option.some.injEq, Sum.inl.injEq, zSw_c, zSw_n]); (try simp only [zit_e, Bool.and_eq_true, Bool.or_eq_true, Bool.not_eq_true', Bool.and_eq_false_iff, Bool.or_eq_false_iff, Bool.not_eq_false', zbe, zdt, zdf, zb2_p, zbp_0, zbp_1, zbp_inj, zbp_01, Bool.true_eq_false, Bool.false_eq_true, true_and, and_true, Decidable.not_not, Classical.not_not, implies_true, List.nil_append, List.cons_append, List.append_assoc, Option.some.injEq, Sum.inl.injEq, zSw_c, zSw_n, zc_111, f_Un_slot, g_Un_slot]); (try simp only [zi_cs, zi_c0, zii_cs, zii_c0, zl_cs, zl_c0, zll_cs, zll_c0, zr_cs, zr_c0, zrr_cs, zrr_c0, zxs_cs, zxs_c0, zxx_cs, zxx_c0, zfree_c0, zfree_c1, zfree_cs, zfree_cz, zlong_i, zlong_r, zlong_x, zset_0, zset_s, true_and, and_true, Option.some.injEq, Sum.inl.injEq, Sum.inr.injEq, zb2_p, zbp_0, zbp_1, zbp_inj, zbp_01, Nat.zero_add, Nat.reduceAdd, implies_true, List.nil_append, List.cons_append, List.append_assoc, Int.not_lt, Int.not_le, Decidable.not_not, Int.zero_add, Int.reduceLE, Int.reduceLT, Int.reduceEq, Int.reduceNe, Int.reduceAdd, Int.reduceSub, Int.reduceMul, Int.reduceNeg, Int.reduceToNat, Nat.reduceMul, Nat.reduceLT, Nat.reduceEqDiff, and_self, ite_true, ite_false, zx1, zx2, zRecv, List.length_cons, List.length_nil, ne_eq, not_true_eq_false, not_false_eq_true, true_or, or_true, or_false, false_or, and_false, false_and, zf01, zf10, reduceCtorEq, zSw_c, zSw_n, zm_r, zit_T, zit_F, false_implies, true_implies, zc_111, f_Un_slot, g_Un_slot])
  rw [slI_tm (by omega)]
  refine ⟨by omega, hs.1, hs.2, ?_⟩
  refine zif (fun c => ?_) (fun c => ?_)
  · refine ⟨by ((try simp only [zI_e]); (first | done | omega | skip)), ?_, by omega, (zfc.rf.zm (by decide)).zm (by decide)⟩
    have hf : ∀ j : Int, slI (zm (zm μ 113 (slI μ 111 (μ 111 3)) w) 111 3 (μ 111 3 + 1)) 111 j = slI μ 111 j := fun j => by
      unfold slI
      simp only [zm_r, zit_T, zit_F, Nat.reduceEqDiff]
      rw [zit_f (p := (2 : Int) = 3) (by omega)]
    have hl : ∀ s : Int, lgO (zm (zm μ 113 (slI μ 111 (μ 111 3)) w) 111 3 (μ 111 3 + 1)) (slC 111 s) = lgO μ (slC 111 s) := fun s => lgO_c (fun c _ => by rw [zm_off _ (by unfold slC; omega), zm_off _ (by unfold slC; omega)])
    have hw : ∀ y : Int, zm (zm μ 113 (slI μ 111 (μ 111 3)) w) 111 3 (μ 111 3 + 1) 113 y = zit (y = slI μ 111 (μ 111 3)) w (μ 113 y) := fun y => by
      simp only [zm_r, zit_T, zit_F, Nat.reduceEqDiff]
    have h3 : zm (zm μ 113 (slI μ 111 (μ 111 3)) w) 111 3 (μ 111 3 + 1) 111 3 = μ 111 3 + 1 := zm_s
    generalize zm (zm μ 113 (slI μ 111 (μ 111 3)) w) 111 3 (μ 111 3 + 1) = μ2 at *
    unfold kpD unD
    rw [if_neg (by rw [tL_len]; omega), h3, tL_app (by omega)]
    congr 1
    · refine tL_congr (fun i a b => ?_)
      have := slI_ne (μ := μ) (U := 111) a (show i < μ 111 3 by omega) (by omega)
      rw [hf, hl, hw, zit_f this]
    · rw [hf, hl, hw, zit_t rfl]
  · have c : μ 111 3 = 16 := by omega
    have etm : (μ 111 2 + 1).tmod 17 = (μ 111 2 + 1) % 17 := Int.tmod_eq_emod_of_nonneg (by omega)
    rw [etm]
    refine ⟨by omega, ?_, by omega, (zfc.rf.zm (by decide)).zm (by decide)⟩
    have hf : ∀ j : Int, slI (zm (zm μ 113 (slI μ 111 (μ 111 3)) w) 111 2 ((μ 111 2 + 1) % 17)) 111 j = slI μ 111 (j + 1) := fun j => by
      unfold slI
      simp only [zm_r, zit_T, zit_F, Nat.reduceEqDiff]
      omega
    have hl : ∀ s : Int, lgO (zm (zm μ 113 (slI μ 111 (μ 111 3)) w) 111 2 ((μ 111 2 + 1) % 17)) (slC 111 s) = lgO μ (slC 111 s) := fun s => lgO_c (fun c _ => by rw [zm_off _ (by unfold slC; omega), zm_off _ (by unfold slC; omega)])
    have hw : ∀ y : Int, zm (zm μ 113 (slI μ 111 (μ 111 3)) w) 111 2 ((μ 111 2 + 1) % 17) 113 y = zit (y = slI μ 111 (μ 111 3)) w (μ 113 y) := fun y => by
      simp only [zm_r, zit_T, zit_F, Nat.reduceEqDiff]
    have h3 : zm (zm μ 113 (slI μ 111 (μ 111 3)) w) 111 2 ((μ 111 2 + 1) % 17) 111 3 = 16 := by
      rw [zm_r, zit_t rfl, zit_f (by omega), zm_off 111 (by decide), c]
    generalize zm (zm μ 113 (slI μ 111 (μ 111 3)) w) 111 2 ((μ 111 2 + 1) % 17) = μ2 at *
    unfold kpD unD
    rw [if_pos (by rw [tL_len]; omega), h3, c]
    rw [c] at hw
    show tL (15 + 1) _ = _
    rw [tL_succ]
    congr 1
    · refine tL_tail (n := 16) (fun i a b => ?_)
      have := slI_ne (μ := μ) (U := 111) (show 0 ≤ i + 1 by omega) (show i + 1 < 16 by omega) (by omega)
      rw [hf, hl, hw, zit_f this]
    · rw [hf, hl, hw, show (((15 : Nat) : Int) + 1) = 16 from rfl, zit_t rfl]

