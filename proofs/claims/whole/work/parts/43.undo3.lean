def y_Un_takeBack : zMt := (⟨"DebtDoors$Undo", "takeBack", "(LDebtDoors$Ledger;)I"⟩, prog_12_method_6_code, 2, some .int)
theorem d_Un_takeBack_0 : decode prog_12_method_6_code 0 = .ok (.aload_n 0, 1) := by decide +kernel
theorem d_Un_takeBack_1 : decode prog_12_method_6_code 1 = .ok (.getfield 30, 3) := by decide +kernel
theorem d_Un_takeBack_4 : decode prog_12_method_6_code 4 = .ok (.ifCond .ne 5, 3) := by decide +kernel
theorem d_Un_takeBack_7 : decode prog_12_method_6_code 7 = .ok (.iconst (-1), 1) := by decide +kernel
theorem d_Un_takeBack_8 : decode prog_12_method_6_code 8 = .ok (.ireturn, 1) := by decide +kernel
theorem d_Un_takeBack_9 : decode prog_12_method_6_code 9 = .ok (.aload_n 0, 1) := by decide +kernel
theorem d_Un_takeBack_10 : decode prog_12_method_6_code 10 = .ok (.dup, 1) := by decide +kernel
theorem d_Un_takeBack_11 : decode prog_12_method_6_code 11 = .ok (.getfield 30, 3) := by decide +kernel
theorem d_Un_takeBack_14 : decode prog_12_method_6_code 14 = .ok (.iconst 1, 1) := by decide +kernel
theorem d_Un_takeBack_15 : decode prog_12_method_6_code 15 = .ok (.isub, 1) := by decide +kernel
theorem d_Un_takeBack_16 : decode prog_12_method_6_code 16 = .ok (.putfield 30, 3) := by decide +kernel
theorem d_Un_takeBack_19 : decode prog_12_method_6_code 19 = .ok (.aload_n 1, 1) := by decide +kernel
theorem d_Un_takeBack_20 : decode prog_12_method_6_code 20 = .ok (.aload_n 0, 1) := by decide +kernel
theorem d_Un_takeBack_21 : decode prog_12_method_6_code 21 = .ok (.getfield 13, 3) := by decide +kernel
theorem d_Un_takeBack_24 : decode prog_12_method_6_code 24 = .ok (.aload_n 0, 1) := by decide +kernel
theorem d_Un_takeBack_25 : decode prog_12_method_6_code 25 = .ok (.aload_n 0, 1) := by decide +kernel
theorem d_Un_takeBack_26 : decode prog_12_method_6_code 26 = .ok (.getfield 30, 3) := by decide +kernel
theorem d_Un_takeBack_29 : decode prog_12_method_6_code 29 = .ok (.invokevirtual 33, 3) := by decide +kernel
theorem d_Un_takeBack_32 : decode prog_12_method_6_code 32 = .ok (.aaload, 1) := by decide +kernel
theorem d_Un_takeBack_33 : decode prog_12_method_6_code 33 = .ok (.invokevirtual 26, 3) := by decide +kernel
theorem d_Un_takeBack_36 : decode prog_12_method_6_code 36 = .ok (.aload_n 0, 1) := by decide +kernel
theorem d_Un_takeBack_37 : decode prog_12_method_6_code 37 = .ok (.getfield 17, 3) := by decide +kernel
theorem d_Un_takeBack_40 : decode prog_12_method_6_code 40 = .ok (.aload_n 0, 1) := by decide +kernel
theorem d_Un_takeBack_41 : decode prog_12_method_6_code 41 = .ok (.aload_n 0, 1) := by decide +kernel
theorem d_Un_takeBack_42 : decode prog_12_method_6_code 42 = .ok (.getfield 30, 3) := by decide +kernel
theorem d_Un_takeBack_45 : decode prog_12_method_6_code 45 = .ok (.invokevirtual 33, 3) := by decide +kernel
theorem d_Un_takeBack_48 : decode prog_12_method_6_code 48 = .ok (.iaload, 1) := by decide +kernel
theorem d_Un_takeBack_49 : decode prog_12_method_6_code 49 = .ok (.ireturn, 1) := by decide +kernel
def w_Un_takeBack {d : Nat} (hd : 2 ≤ d) := (show SS ("DebtDoors$Undo", prog_12_method_6_code, 2) (some .int) d 0 0 0 0 _ from (sS (p1 := 9) (sIf (pn := 9) (tt := 7) (xC (rNot (rJ1 (tgt := 9) k_ne (rF 3 fl_Un_30 nk_10_3 (rAn 0 d_Un_takeBack_0 rfl) d_Un_takeBack_1 rfl) d_Un_takeBack_4 (by decide)))) (sRi (xE (rI d_Un_takeBack_7 rfl)) d_Un_takeBack_8 rfl)) (sS (p1 := 19) (sPo 3 o_sub fl_Un_30 fp_10_3 nk_10_3 (rAn 0 d_Un_takeBack_9 rfl) d_Un_takeBack_10 d_Un_takeBack_11 (rI d_Un_takeBack_14 rfl) d_Un_takeBack_15 d_Un_takeBack_16 rfl) (sS (p1 := 36) (sV (xVv lv_Un_26 (xA (rAr (rAr rA0 (rAn 1 d_Un_takeBack_19 rfl)) (rAa (rFr fl_Un_13 nk_10_0 (rAn 0 d_Un_takeBack_20 rfl) d_Un_takeBack_21) (rV p_Un_slot (Nat.le_trans (Nat.le_of_ble_eq_true rfl) hd) lv_Un_33 (rAi (rAr rA0 (rAn 0 d_Un_takeBack_24 rfl)) (rF 3 fl_Un_30 nk_10_3 (rAn 0 d_Un_takeBack_25 rfl) d_Un_takeBack_26 rfl)) (by decide) d_Un_takeBack_29) d_Un_takeBack_32))) (by decide) d_Un_takeBack_33)) (sRi (xE (rIa (rFr fl_Un_17 nk_10_1 (rAn 0 d_Un_takeBack_36 rfl) d_Un_takeBack_37) (rV p_Un_slot (Nat.le_trans (Nat.le_of_ble_eq_true rfl) hd) lv_Un_33 (rAi (rAr rA0 (rAn 0 d_Un_takeBack_40 rfl)) (rF 3 fl_Un_30 nk_10_3 (rAn 0 d_Un_takeBack_41 rfl) d_Un_takeBack_42 rfl)) (by decide) d_Un_takeBack_45) d_Un_takeBack_48)) d_Un_takeBack_49 rfl)))))
theorem q_Un_takeBack {d : Nat} (hd : 5 ≤ d) {μ : zMem} (hu : (0 ≤ μ 111 2 ∧ μ 111 2 < 17) ∧ 1 ≤ μ 111 3 ∧ μ 111 3 ≤ 16) (hl : 0 ≤ μ (slC 111 (slI μ 111 (μ 111 3 - 1))) 5 ∧ μ (slC 111 (slI μ 111 (μ 111 3 - 1))) 5 ≤ 16) : zSp d 0 0 y_Un_takeBack zT0 [vr 111, vr 2] μ zT0 (fun r μ' => r = some (vi (μ 113 (slI μ 111 (μ 111 3 - 1)))) ∧ lgO μ' 2 = lgO μ (slC 111 (slI μ 111 (μ 111 3 - 1))) ∧ unD μ' 111 = (unD μ 111).dropLast ∧ μ' 111 = zm μ 111 3 (μ 111 3 - 1) 111 ∧ zfc [111, 2, 3, 4, 5, 6, 7] μ μ') := by
  have hs := slI_in (μ := μ) (U := 111) (i := μ 111 3 - 1)
  have hz := zun hs.1 hs.2
  refine zSp.ss [vr 111, vr 2] rfl (w_Un_takeBack (Nat.le_trans (by decide) hd)) rfl rfl ?_
  (try simp only [zit_e, Bool.and_eq_true, Bool.or_eq_true, Bool.not_eq_true', Bool.and_eq_false_iff, Bool.or_eq_false_iff, Bool.not_eq_false', zbe, zdt, zdf, zb2_p, zbp_0, zbp_1, zbp_inj, zbp_01, Bool.true_eq_false, Bool.false_eq_true, true_and, and_true, Decidable.not_not, Classical.not_not, implies_true, List.nil_append, List.cons_append, List.append_assoc, Option.some.injEq, Sum.inl.injEq, zSw_c, zSw_n]); (try simp only [zit_e, Bool.and_eq_true, Bool.or_eq_true, Bool.not_eq_true', Bool.and_eq_false_iff, Bool.or_eq_false_iff, Bool.not_eq_false', zbe, zdt, zdf, zb2_p, zbp_0, zbp_1, zbp_inj, zbp_01, Bool.true_eq_false, Bool.false_eq_true, true_and, and_true, Decidable.not_not, Classical.not_not, implies_true, List.nil_append, List.cons_append, List.append_assoc, Option.some.injEq, Sum.inl.injEq, zSw_c, zSw_n, zc_111, zc_2, f_Un_slot, g_Un_slot]); (try simp only [zi_cs, zi_c0, zii_cs, zii_c0, zl_cs, zl_c0, zll_cs, zll_c0, zr_cs, zr_c0, zrr_cs, zrr_c0, zxs_cs, zxs_c0, zxx_cs, zxx_c0, zfree_c0, zfree_c1, zfree_cs, zfree_cz, zlong_i, zlong_r, zlong_x, zset_0, zset_s, true_and, and_true, Option.some.injEq, Sum.inl.injEq, Sum.inr.injEq, zb2_p, zbp_0, zbp_1, zbp_inj, zbp_01, Nat.zero_add, Nat.reduceAdd, implies_true, List.nil_append, List.cons_append, List.append_assoc, Int.not_lt, Int.not_le, Decidable.not_not, Int.zero_add, Int.reduceLE, Int.reduceLT, Int.reduceEq, Int.reduceNe, Int.reduceAdd, Int.reduceSub, Int.reduceMul, Int.reduceNeg, Int.reduceToNat, Nat.reduceMul, Nat.reduceLT, Nat.reduceEqDiff, and_self, ite_true, ite_false, zx1, zx2, zRecv, List.length_cons, List.length_nil, ne_eq, not_true_eq_false, not_false_eq_true, true_or, or_true, or_false, false_or, and_false, false_and, zf01, zf10, reduceCtorEq, zSw_c, zSw_n, zm_r, zit_T, zit_F, false_implies, true_implies, zc_111, zc_2, f_Un_slot, g_Un_slot])
  rw [if_neg (by omega)]
  rw [slI_tm (by omega), hz.1]
  have e2 : zm μ 111 3 (μ 111 3 - 1) 111 2 = μ 111 2 := by rw [zm_r, zit_t rfl, zit_f (by omega)]
  have e3 : zm μ 111 3 (μ 111 3 - 1) 111 3 = μ 111 3 - 1 := zm_s
  have eo : ∀ k, k ≠ 111 → zm μ 111 3 (μ 111 3 - 1) k = μ k := fun k hk => zm_off k hk
  have hne : slC 111 (slI μ 111 (μ 111 3 - 1)) ≠ 111 := by unfold slC; omega
  refine ⟨by ((try simp only [zI_e]); (first | done | omega | skip)), ⟨by omega, by omega, hs⟩, ?_⟩
  refine zCw.use (q_Le_copyFrom (d := 4) (by decide) zc_2.1.1 hz.2.1 (by unfold slC; omega)) (by omega) (fun q μ2 e => ?_)
  obtain ⟨b0, b1, b2, b3, b4, b5⟩ := e
  have k111 : μ2 111 = zm μ 111 3 (μ 111 3 - 1) 111 := b5 111 (by decide)
  have k113 : μ2 113 = μ 113 := (b5 113 (by decide)).trans (eo 113 (by decide))
  have kf : zfc [111, 2, 3, 4, 5, 6, 7] μ μ2 := ((zfc.rf (cs := [111])).zm (by decide) |>.tr b5).mo (by simp)
  have hlg : lgO μ2 2 = lgO μ (slC 111 (slI μ 111 (μ 111 3 - 1))) := by
    rw [lgO_cp (by rw [eo _ hne]; exact hl) b1 b2 b3 b4]
    exact lgO_c (fun c _ => eo _ (by unfold slC; omega))
  have hsl : ∀ j : Int, slI μ2 111 j = slI μ 111 j := fun j => by unfold slI; rw [k111, e2]
  rw [k111, e2, e3, slI_tm (by omega), k113]
  refine ⟨b0, ⟨by omega, hs⟩, rfl, hlg, ?_, rfl, kf⟩
  have hn : (μ 111 3).toNat = (μ 111 3 - 1).toNat + 1 := by omega
  unfold unD
  rw [k111, e3, hn, tL_succ, List.dropLast_concat]
  refine tL_congr (fun i a b => ?_)
  have k113' : μ2 (111 + 2) = μ (111 + 2) := k113
  rw [hsl, k113']
  congr 1
  refine lgO_c (fun c hc => kf _ ?_)
  have := slI_in (μ := μ) (U := 111) (i := i)
  unfold slC
  simp only [List.mem_cons, List.not_mem_nil, or_false]
  omega

