/-! setters -/
theorem JS.r {k : Int} {a b : zMem} (h : JS k a b) (h0 : 0 ≤ k ∧ k ≤ 1000) : okR (a 354) ∧ okR (b 356) := ⟨fun i x y => by have := h.2.2.2 i x y; omega, fun i x y => by have := h.2.2.2 i x y; omega⟩
theorem JJ.rD {k : Int} {a b : zMem} (h : JJ k a b) (h0 : 0 ≤ k) (h1 : k ≤ 1000) : okR (a 354) := (h.2.2.2.2.1.r ⟨h0, h1⟩).1
theorem JJ.rM {k : Int} {a b : zMem} (h : JJ k a a) (h0 : 0 ≤ k) (h1 : k ≤ 1000) (hm : HM a b) : okR (b 356) := by
  rw [hm 356 (by decide)]
  exact (h.2.2.2.2.1.r ⟨h0, h1⟩).2
noncomputable def forceC (f n : Int) : Int := zit (f ≠ -1 ∧ ¬ (0 ≤ f ∧ f ≤ n - 1)) (-2) 0
def y_D_force : zMt := (⟨"DebtDoors", "force", "(I)I"⟩, prog_1_method_24_code, 3, some .int)
theorem d_D_force_0 : decode prog_1_method_24_code 0 = .ok (.iload_n 1, 1) := by decide +kernel
theorem d_D_force_1 : decode prog_1_method_24_code 1 = .ok (.iconst (-1), 1) := by decide +kernel
theorem d_D_force_2 : decode prog_1_method_24_code 2 = .ok (.if_icmp .eq 27, 3) := by decide +kernel
theorem d_D_force_5 : decode prog_1_method_24_code 5 = .ok (.iload_n 1, 1) := by decide +kernel
theorem d_D_force_6 : decode prog_1_method_24_code 6 = .ok (.iconst 0, 1) := by decide +kernel
theorem d_D_force_7 : decode prog_1_method_24_code 7 = .ok (.aload_n 0, 1) := by decide +kernel
theorem d_D_force_8 : decode prog_1_method_24_code 8 = .ok (.getfield 12, 3) := by decide +kernel
theorem d_D_force_11 : decode prog_1_method_24_code 11 = .ok (.getfield 201, 3) := by decide +kernel
theorem d_D_force_14 : decode prog_1_method_24_code 14 = .ok (.iconst 1, 1) := by decide +kernel
theorem d_D_force_15 : decode prog_1_method_24_code 15 = .ok (.isub, 1) := by decide +kernel
theorem d_D_force_16 : decode prog_1_method_24_code 16 = .ok (.invokestatic 104, 3) := by decide +kernel
theorem d_D_force_19 : decode prog_1_method_24_code 19 = .ok (.ifCond .ne 10, 3) := by decide +kernel
theorem d_D_force_22 : decode prog_1_method_24_code 22 = .ok (.aload_n 0, 1) := by decide +kernel
theorem d_D_force_23 : decode prog_1_method_24_code 23 = .ok (.bipush (-2), 2) := by decide +kernel
theorem d_D_force_25 : decode prog_1_method_24_code 25 = .ok (.invokevirtual 108, 3) := by decide +kernel
theorem d_D_force_28 : decode prog_1_method_24_code 28 = .ok (.ireturn, 1) := by decide +kernel
theorem d_D_force_29 : decode prog_1_method_24_code 29 = .ok (.aload_n 0, 1) := by decide +kernel
theorem d_D_force_30 : decode prog_1_method_24_code 30 = .ok (.getfield 12, 3) := by decide +kernel
theorem d_D_force_33 : decode prog_1_method_24_code 33 = .ok (.getfield 286, 3) := by decide +kernel
theorem d_D_force_36 : decode prog_1_method_24_code 36 = .ok (.istore_n 2, 1) := by decide +kernel
theorem d_D_force_37 : decode prog_1_method_24_code 37 = .ok (.aload_n 0, 1) := by decide +kernel
theorem d_D_force_38 : decode prog_1_method_24_code 38 = .ok (.getfield 12, 3) := by decide +kernel
theorem d_D_force_41 : decode prog_1_method_24_code 41 = .ok (.iload_n 1, 1) := by decide +kernel
theorem d_D_force_42 : decode prog_1_method_24_code 42 = .ok (.putfield 286, 3) := by decide +kernel
theorem d_D_force_45 : decode prog_1_method_24_code 45 = .ok (.aload_n 0, 1) := by decide +kernel
theorem d_D_force_46 : decode prog_1_method_24_code 46 = .ok (.iload_n 2, 1) := by decide +kernel
theorem d_D_force_47 : decode prog_1_method_24_code 47 = .ok (.invokevirtual 130, 3) := by decide +kernel
theorem d_D_force_50 : decode prog_1_method_24_code 50 = .ok (.ireturn, 1) := by decide +kernel
def w_D_force {d : Nat} (hd : 2 ≤ d) := (show SS ("DebtDoors", prog_1_method_24_code, 3) (some .int) d 0 0 0 0 _ from (sS (p1 := 29) (sIf (pn := 29) (tt := 22) (xC (rAnd (mm := 5) (rNot (rJ2 (tgt := 29) j_eq (rIn 1 d_D_force_0 rfl) (rI d_D_force_1 rfl) d_D_force_2 (by decide))) (rNot (rJ1 (tgt := 29) k_ne (rS p_D_between (Nat.le_trans (Nat.le_of_ble_eq_true rfl) hd) ls_D_104 (rAi (rAi (rAi rA0 (rIn 1 d_D_force_5 rfl)) (rI d_D_force_6 rfl)) (r2 o_sub (rF 10 fl_D_201 nk_9_10 (rFr fl_D_12 nk_11_0 (rAn 0 d_D_force_7 rfl) d_D_force_8) d_D_force_11 rfl) (rI d_D_force_14 rfl) d_D_force_15)) (by decide) d_D_force_16) d_D_force_19 (by decide))))) (sRi (xV lv_D_108 (xA (rAi (rAr rA0 (rAn 0 d_D_force_22 rfl)) (rB d_D_force_23 rfl))) (by decide) d_D_force_25) d_D_force_28 rfl)) (sS (p1 := 37) (sIn 2 (xE (rF 11 fl_D_286 nk_9_11 (rFr fl_D_12 nk_11_0 (rAn 0 d_D_force_29 rfl) d_D_force_30) d_D_force_33 rfl)) d_D_force_36 rfl (by decide)) (sS (p1 := 45) (sP 11 fl_D_286 fp_9_11 nk_9_11 (rFr fl_D_12 nk_11_0 (rAn 0 d_D_force_37 rfl) d_D_force_38) (xE (rIn 1 d_D_force_41 rfl)) d_D_force_42 rfl) (sRi (xV lv_D_130 (xA (rAi (rAr rA0 (rAn 0 d_D_force_45 rfl)) (rIn 2 d_D_force_46 rfl))) (by decide) d_D_force_47) d_D_force_50 rfl)))))
def y_M_force : zMt := (⟨"DebtDoorsModel", "force", "(I)I"⟩, prog_14_method_62_code, 3, some .int)
theorem d_M_force_0 : decode prog_14_method_62_code 0 = .ok (.iload_n 1, 1) := by decide +kernel
theorem d_M_force_1 : decode prog_14_method_62_code 1 = .ok (.iconst (-1), 1) := by decide +kernel
theorem d_M_force_2 : decode prog_14_method_62_code 2 = .ok (.aload_n 0, 1) := by decide +kernel
theorem d_M_force_3 : decode prog_14_method_62_code 3 = .ok (.getfield 24, 3) := by decide +kernel
theorem d_M_force_6 : decode prog_14_method_62_code 6 = .ok (.sipush 155, 3) := by decide +kernel
theorem d_M_force_9 : decode prog_14_method_62_code 9 = .ok (.iaload, 1) := by decide +kernel
theorem d_M_force_10 : decode prog_14_method_62_code 10 = .ok (.iconst 1, 1) := by decide +kernel
theorem d_M_force_11 : decode prog_14_method_62_code 11 = .ok (.isub, 1) := by decide +kernel
theorem d_M_force_12 : decode prog_14_method_62_code 12 = .ok (.invokestatic 123, 3) := by decide +kernel
theorem d_M_force_15 : decode prog_14_method_62_code 15 = .ok (.ifCond .ne 10, 3) := by decide +kernel
theorem d_M_force_18 : decode prog_14_method_62_code 18 = .ok (.aload_n 0, 1) := by decide +kernel
theorem d_M_force_19 : decode prog_14_method_62_code 19 = .ok (.bipush (-2), 2) := by decide +kernel
theorem d_M_force_21 : decode prog_14_method_62_code 21 = .ok (.invokevirtual 127, 3) := by decide +kernel
theorem d_M_force_24 : decode prog_14_method_62_code 24 = .ok (.ireturn, 1) := by decide +kernel
theorem d_M_force_25 : decode prog_14_method_62_code 25 = .ok (.aload_n 0, 1) := by decide +kernel
theorem d_M_force_26 : decode prog_14_method_62_code 26 = .ok (.getfield 24, 3) := by decide +kernel
theorem d_M_force_29 : decode prog_14_method_62_code 29 = .ok (.sipush 156, 3) := by decide +kernel
theorem d_M_force_32 : decode prog_14_method_62_code 32 = .ok (.iaload, 1) := by decide +kernel
theorem d_M_force_33 : decode prog_14_method_62_code 33 = .ok (.istore_n 2, 1) := by decide +kernel
theorem d_M_force_34 : decode prog_14_method_62_code 34 = .ok (.aload_n 0, 1) := by decide +kernel
theorem d_M_force_35 : decode prog_14_method_62_code 35 = .ok (.getfield 24, 3) := by decide +kernel
theorem d_M_force_38 : decode prog_14_method_62_code 38 = .ok (.sipush 156, 3) := by decide +kernel
theorem d_M_force_41 : decode prog_14_method_62_code 41 = .ok (.iload_n 1, 1) := by decide +kernel
theorem d_M_force_42 : decode prog_14_method_62_code 42 = .ok (.iastore, 1) := by decide +kernel
theorem d_M_force_43 : decode prog_14_method_62_code 43 = .ok (.aload_n 0, 1) := by decide +kernel
theorem d_M_force_44 : decode prog_14_method_62_code 44 = .ok (.iload_n 2, 1) := by decide +kernel
theorem d_M_force_45 : decode prog_14_method_62_code 45 = .ok (.invokevirtual 14, 3) := by decide +kernel
theorem d_M_force_48 : decode prog_14_method_62_code 48 = .ok (.ireturn, 1) := by decide +kernel
def w_M_force {d : Nat} (hd : 2 ≤ d) := (show SS ("DebtDoorsModel", prog_14_method_62_code, 3) (some .int) d 0 0 0 0 _ from (sS (p1 := 25) (sIf (pn := 25) (tt := 18) (xC (rNot (rJ1 (tgt := 25) k_ne (rS p_M_lies (Nat.le_trans (Nat.le_of_ble_eq_true rfl) hd) ls_M_123 (rAi (rAi (rAi rA0 (rIn 1 d_M_force_0 rfl)) (rI d_M_force_1 rfl)) (r2 o_sub (rIa (rFr fl_M_24 nk_12_2 (rAn 0 d_M_force_2 rfl) d_M_force_3) (rSi d_M_force_6 rfl) d_M_force_9) (rI d_M_force_10 rfl) d_M_force_11)) (by decide) d_M_force_12) d_M_force_15 (by decide)))) (sRi (xV lv_M_127 (xA (rAi (rAr rA0 (rAn 0 d_M_force_18 rfl)) (rB d_M_force_19 rfl))) (by decide) d_M_force_21) d_M_force_24 rfl)) (sS (p1 := 34) (sIn 2 (xE (rIa (rFr fl_M_24 nk_12_2 (rAn 0 d_M_force_25 rfl) d_M_force_26) (rSi d_M_force_29 rfl) d_M_force_32)) d_M_force_33 rfl (by decide)) (sS (p1 := 43) (sAs (rFr fl_M_24 nk_12_2 (rAn 0 d_M_force_34 rfl) d_M_force_35) (rSi d_M_force_38 rfl) (xE (rIn 1 d_M_force_41 rfl)) d_M_force_42) (sRi (xV lv_M_14 (xA (rAi (rAr rA0 (rAn 0 d_M_force_43 rfl)) (rIn 2 d_M_force_44 rfl))) (by decide) d_M_force_45) d_M_force_48 rfl)))))
theorem LC_force {f : Int} : LC y_D_force y_M_force [vi f] := LC.mk (fun k μ h0 h1 hJ => by
  obtain ⟨a1, a2, a3, a4, a5, a6, a7, a8, a9, a10⟩ := hJ.1
  have hL := a9.1
  refine ⟨forceC f (μ 1 10), fun v μ1 => v = μ 1 11 ∧ μ1 = zm (zm μ 1 11 f) 0 15 0, fun μ1 v μ2 => v = μ1 357 156 ∧ μ2 = zm (zm μ1 357 156 f) 355 0 0, ?_, ?_, ?_, ?_⟩
  · unfold forceC zit
    split <;> omega
  · refine zCw.use (zSp.ss [vr 0, vi f, vx 0] rfl (w_D_force (d := 100) (by decide)) rfl rfl ?_) (by decide) (fun q μ' e => e)
    (try simp only [zit_e, Bool.and_eq_true, Bool.or_eq_true, Bool.not_eq_true', Bool.and_eq_false_iff, Bool.or_eq_false_iff, Bool.not_eq_false', zbe, zdt, zdf, zb2_p, zbp_0, zbp_1, zbp_inj, zbp_01, Bool.true_eq_false, Bool.false_eq_true, true_and, and_true, Decidable.not_not, Classical.not_not, implies_true, List.nil_append, List.cons_append, List.append_assoc, Option.some.injEq, Sum.inl.injEq, zSw_c, zSw_n]); (try simp only [zit_e, Bool.and_eq_true, Bool.or_eq_true, Bool.not_eq_true', Bool.and_eq_false_iff, Bool.or_eq_false_iff, Bool.not_eq_false', zbe, zdt, zdf, zb2_p, zbp_0, zbp_1, zbp_inj, zbp_01, Bool.true_eq_false, Bool.false_eq_true, true_and, and_true, Decidable.not_not, Classical.not_not, implies_true, List.nil_append, List.cons_append, List.append_assoc, Option.some.injEq, Sum.inl.injEq, zSw_c, zSw_n, zc_0, zc_1, f_D_between, g_D_between]); (try simp only [zi_cs, zi_c0, zii_cs, zii_c0, zl_cs, zl_c0, zll_cs, zll_c0, zr_cs, zr_c0, zrr_cs, zrr_c0, zxs_cs, zxs_c0, zxx_cs, zxx_c0, zfree_c0, zfree_c1, zfree_cs, zfree_cz, zlong_i, zlong_r, zlong_x, zset_0, zset_s, true_and, and_true, Option.some.injEq, Sum.inl.injEq, Sum.inr.injEq, zb2_p, zbp_0, zbp_1, zbp_inj, zbp_01, Nat.zero_add, Nat.reduceAdd, implies_true, List.nil_append, List.cons_append, List.append_assoc, Int.not_lt, Int.not_le, Decidable.not_not, Int.zero_add, Int.reduceLE, Int.reduceLT, Int.reduceEq, Int.reduceNe, Int.reduceAdd, Int.reduceSub, Int.reduceMul, Int.reduceNeg, Int.reduceToNat, Nat.reduceMul, Nat.reduceLT, Nat.reduceEqDiff, and_self, ite_true, ite_false, zx1, zx2, zRecv, List.length_cons, List.length_nil, ne_eq, not_true_eq_false, not_false_eq_true, true_or, or_true, or_false, false_or, and_false, false_and, zf01, zf10, reduceCtorEq, zSw_c, zSw_n, zm_r, zit_T, zit_F, false_implies, true_implies, zc_0, zc_1, f_D_between, g_D_between])
    refine ⟨fun _ => by ((try simp only [zI_e]); (first | done | omega | skip)), ?_⟩
    refine zif (fun c1 => rfD_w (by omega) (by decide) (hJ.rD h0 h1) ⟨_, rfl, OD.no (zit_t (by omega)) (by decide) PJc.rf⟩) (fun c1 => ?_)
    have e : forceC f (μ 1 10) = 0 := zit_f (by omega)
    exact acD_w (by omega) ⟨_, rfl, OD.yes (by omega) (by ((repeat refine HM.sm ?_ (by omega)); exact HM.rf)) ⟨rfl, rfl⟩⟩
  · intro μ1 hm
    have m7 := hm 357 (by decide)
    refine zCw.use (zSp.ss [vr 355, vi f, vx 0] rfl (w_M_force (d := 100) (by decide)) rfl rfl ?_) (by decide) (fun q μ' e => e)
    (try simp only [zit_e, Bool.and_eq_true, Bool.or_eq_true, Bool.not_eq_true', Bool.and_eq_false_iff, Bool.or_eq_false_iff, Bool.not_eq_false', zbe, zdt, zdf, zb2_p, zbp_0, zbp_1, zbp_inj, zbp_01, Bool.true_eq_false, Bool.false_eq_true, true_and, and_true, Decidable.not_not, Classical.not_not, implies_true, List.nil_append, List.cons_append, List.append_assoc, Option.some.injEq, Sum.inl.injEq, zSw_c, zSw_n]); (try simp only [zit_e, Bool.and_eq_true, Bool.or_eq_true, Bool.not_eq_true', Bool.and_eq_false_iff, Bool.or_eq_false_iff, Bool.not_eq_false', zbe, zdt, zdf, zb2_p, zbp_0, zbp_1, zbp_inj, zbp_01, Bool.true_eq_false, Bool.false_eq_true, true_and, and_true, Decidable.not_not, Classical.not_not, implies_true, List.nil_append, List.cons_append, List.append_assoc, Option.some.injEq, Sum.inl.injEq, zSw_c, zSw_n, zc_355, f_M_lies, g_M_lies]); (try simp only [zi_cs, zi_c0, zii_cs, zii_c0, zl_cs, zl_c0, zll_cs, zll_c0, zr_cs, zr_c0, zrr_cs, zrr_c0, zxs_cs, zxs_c0, zxx_cs, zxx_c0, zfree_c0, zfree_c1, zfree_cs, zfree_cz, zlong_i, zlong_r, zlong_x, zset_0, zset_s, true_and, and_true, Option.some.injEq, Sum.inl.injEq, Sum.inr.injEq, zb2_p, zbp_0, zbp_1, zbp_inj, zbp_01, Nat.zero_add, Nat.reduceAdd, implies_true, List.nil_append, List.cons_append, List.append_assoc, Int.not_lt, Int.not_le, Decidable.not_not, Int.zero_add, Int.reduceLE, Int.reduceLT, Int.reduceEq, Int.reduceNe, Int.reduceAdd, Int.reduceSub, Int.reduceMul, Int.reduceNeg, Int.reduceToNat, Nat.reduceMul, Nat.reduceLT, Nat.reduceEqDiff, and_self, ite_true, ite_false, zx1, zx2, zRecv, List.length_cons, List.length_nil, ne_eq, not_true_eq_false, not_false_eq_true, true_or, or_true, or_false, false_or, and_false, false_and, zf01, zf10, reduceCtorEq, zSw_c, zSw_n, zm_r, zit_T, zit_F, false_implies, true_implies, zc_355, f_M_lies, g_M_lies])
    rw [m7, a9.2.1]
    refine ⟨by ((try simp only [zI_e]); (first | done | omega | skip)), ?_⟩
    refine zif (fun c1 => rfM_w (by omega) (by decide) (hJ.rM h0 h1 hm) ⟨_, rfl, OM.no (zit_t (by omega)) (by decide) PJm.rf⟩) (fun c1 => ?_)
    have e : forceC f (μ 1 10) = 0 := zit_f (by omega)
    exact acM_w (by omega) ⟨_, rfl, OM.yes (by omega) (by ((repeat refine HC.sm ?_ (by omega)); exact HC.rf)) ⟨rfl, rfl⟩⟩
  · rintro c v w μ1 μ2 hm ⟨rfl, rfl⟩ hc ⟨rfl, rfl⟩
    have c : ¬ (f ≠ -1 ∧ ¬ (0 ≤ f ∧ f ≤ μ 1 10 - 1)) := fun q => by unfold forceC at c; rw [zit_t q] at c; omega
    have hJ1 := hJ.m HC.rf hm
    clear hJ
    obtain ⟨a1, a2, a3, a4, a5, a6, a7, a8, a9, a10⟩ := hJ1.1
    refine ⟨a10.1.symm, JJ.ok (JJ.tw hJ1 ?_ (by ((repeat refine KCt.sm ?_ (by unfold scC; omega)); exact KCt.rf)) (by ((repeat first | refine KMt.sm ?_ (by unfold scM; omega) | refine KMt.zf ?_ (by unfold kfM; omega)); exact KMt.rf))) (by omega) rfl⟩
    refine ⟨?_, ?_, ?_, ?_, ?_, ?_, ?_, ?_, ?_, ?_⟩
    all_goals first
      | (first | (refine a1.c ?_ ?_ <;> ((repeat rw [zm_o (by omega)]); (try rfl); done)) | (refine a2.c (fun i x y => ?_) (fun i x y => ?_) <;> ((repeat rw [zm_o (by omega)]); (try rfl); done)) | (refine a3.c (fun i x y => ?_) (fun i x y => ?_) <;> (try apply And.intro) <;> ((repeat rw [zm_o (by omega)]); (try rfl); done)) | (refine a4.c ?_ (fun i x y => ?_) (fun i x y => ?_) <;> (try simp only [fD]) <;> ((repeat rw [zm_o (by omega)]); (try rfl); done)) | (refine a5.c ?_ ?_ <;> ((repeat rw [zm_o (by omega)]); (try rfl); done)) | (refine a6.c ?_ ?_ <;> ((repeat rw [zm_o (by omega)]); (try rfl); done)) | (refine a7.c ?_ (fun c p1 p2 i x y => ?_) ?_ (fun i x y => ?_) <;> ((repeat rw [zm_o (by omega)]); (try rfl); done)) | (refine a8.c ?_ (fun c p1 p2 i x y => ?_) ?_ (fun i x y => ?_) <;> ((repeat rw [zm_o (by omega)]); (try rfl); done)) | (refine a9.c ?_ (fun c p1 p2 i x y => ?_) (fun i x y => ?_) <;> ((repeat rw [zm_o (by omega)]); (try rfl); done)) | (refine a10.c ?_ ?_ ?_ <;> ((repeat rw [zm_o (by omega)]); (try rfl); done)))
      | skip
    refine ⟨by rw [zm_s, zm_s], ?_, ?_⟩
    · rw [zm_s]
      omega
    · rw [zm_s, zm_o (by omega)]
      omega)

