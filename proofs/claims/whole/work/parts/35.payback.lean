/-- how much can be paid back -/
def muchC (pu : Int → Int) (D : List D4) (a b m : Int) : Int := min (min m (owL a b D)) (min (pu a) (9999 - pu b))
noncomputable def payC (n : Int) (pu : Int → Int) (D : List D4) (a b m : Int) : Int := zit (¬ (1 ≤ m ∧ m ≤ 9999)) (-1) (zit (¬ ((0 ≤ a ∧ a < n) ∧ 0 ≤ b ∧ b < n)) (-2) (zit (a = b ∨ muchC pu D a b m ≤ 0) (-3) (muchC pu D a b m)))
theorem owL_b {μ : zMem} {a b : Int} (h : okT (μ 2 5) (fD μ)) : 0 ≤ owL a b (dbD μ) ∧ owL a b (dbD μ) ≤ 159984 := by
  have h1 := owL_in (a := a) (b := b) h (μ 2 5).toNat (by have := h.1; omega)
  have h2 := h.1
  unfold dbD
  omega
theorem owL_bM {μ : zMem} {a b : Int} (h : okT (μ 357 71) (fM μ)) : 0 ≤ owL a b (dbM μ) ∧ owL a b (dbM μ) ≤ 159984 := by
  have h1 := owL_in (a := a) (b := b) h (μ 357 71).toNat (by have := h.1; omega)
  have h2 := h.1
  unfold dbM
  omega
theorem fl_D_118 : zFl "DebtDoors" 118 1 0 := ⟨_, rfl, by decide, (zTb_in 181 (by decide +kernel) (by decide +kernel)), rfl⟩
theorem m_Le_lessen : Cond.instanceMethod y_Le_lessen.1 ∈ zTb ∧ Cond.selects y_Le_lessen.1.cls y_Le_lessen.1 y_Le_lessen.1 ∈ zTb ∧ Cond.initialized y_Le_lessen.1.cls ∈ zTb ∧ Cond.code y_Le_lessen.1 y_Le_lessen.2.1 y_Le_lessen.2.2.1 y_Le_lessen.2.2.2 ∈ zTb ∧ (y_Le_lessen.1.cls ≠ "java/lang/invoke/MethodHandle" ∧ y_Le_lessen.1.cls ≠ "java/lang/invoke/VarHandle" ∧ (parseMethodDescriptor y_Le_lessen.1.desc).map (fun d => d.parameters.length) = some 3) ∧ y_Le_lessen.2.2.1 ≤ 20 :=
  ⟨(zTb_in 955 (by decide +kernel) (by decide +kernel)), (zTb_in 956 (by decide +kernel) (by decide +kernel)), (zTb_in 141 (by decide +kernel) (by decide +kernel)), (zTb_in 957 (by decide +kernel) (by decide +kernel)), by decide +kernel, by decide +kernel⟩
theorem lv_D_331 : zLv "DebtDoors" 331 y_Le_lessen 3 1 := ⟨⟨(zTb_in 954 (by decide +kernel) (by decide +kernel)), m_Le_lessen.1, m_Le_lessen.2.1, m_Le_lessen.2.2⟩, _, rfl, rfl⟩
def y_D_payBack : zMt := (⟨"DebtDoors", "payBack", "(LDebtDoors$Town;III)I"⟩, prog_1_method_37_code, 7, some .int)
theorem d_D_payBack_0 : decode prog_1_method_37_code 0 = .ok (.iload_n 3, 1) := by decide +kernel
theorem d_D_payBack_1 : decode prog_1_method_37_code 1 = .ok (.iconst 1, 1) := by decide +kernel
theorem d_D_payBack_2 : decode prog_1_method_37_code 2 = .ok (.sipush 9999, 3) := by decide +kernel
theorem d_D_payBack_5 : decode prog_1_method_37_code 5 = .ok (.invokestatic 104, 3) := by decide +kernel
theorem d_D_payBack_8 : decode prog_1_method_37_code 8 = .ok (.ifCond .ne 5, 3) := by decide +kernel
theorem d_D_payBack_11 : decode prog_1_method_37_code 11 = .ok (.iconst (-1), 1) := by decide +kernel
theorem d_D_payBack_12 : decode prog_1_method_37_code 12 = .ok (.ireturn, 1) := by decide +kernel
theorem d_D_payBack_13 : decode prog_1_method_37_code 13 = .ok (.aload_n 0, 1) := by decide +kernel
theorem d_D_payBack_14 : decode prog_1_method_37_code 14 = .ok (.iload_n 1, 1) := by decide +kernel
theorem d_D_payBack_15 : decode prog_1_method_37_code 15 = .ok (.invokevirtual 137, 3) := by decide +kernel
theorem d_D_payBack_18 : decode prog_1_method_37_code 18 = .ok (.ifCond .eq 11, 3) := by decide +kernel
theorem d_D_payBack_21 : decode prog_1_method_37_code 21 = .ok (.aload_n 0, 1) := by decide +kernel
theorem d_D_payBack_22 : decode prog_1_method_37_code 22 = .ok (.iload_n 2, 1) := by decide +kernel
theorem d_D_payBack_23 : decode prog_1_method_37_code 23 = .ok (.invokevirtual 137, 3) := by decide +kernel
theorem d_D_payBack_26 : decode prog_1_method_37_code 26 = .ok (.ifCond .ne 6, 3) := by decide +kernel
theorem d_D_payBack_29 : decode prog_1_method_37_code 29 = .ok (.bipush (-2), 2) := by decide +kernel
theorem d_D_payBack_31 : decode prog_1_method_37_code 31 = .ok (.ireturn, 1) := by decide +kernel
theorem d_D_payBack_32 : decode prog_1_method_37_code 32 = .ok (.aload_n 0, 1) := by decide +kernel
theorem d_D_payBack_33 : decode prog_1_method_37_code 33 = .ok (.getfield 115, 3) := by decide +kernel
theorem d_D_payBack_36 : decode prog_1_method_37_code 36 = .ok (.astore 4, 2) := by decide +kernel
theorem d_D_payBack_38 : decode prog_1_method_37_code 38 = .ok (.aload 4, 2) := by decide +kernel
theorem d_D_payBack_40 : decode prog_1_method_37_code 40 = .ok (.getfield 118, 3) := by decide +kernel
theorem d_D_payBack_43 : decode prog_1_method_37_code 43 = .ok (.iload_n 1, 1) := by decide +kernel
theorem d_D_payBack_44 : decode prog_1_method_37_code 44 = .ok (.iaload, 1) := by decide +kernel
theorem d_D_payBack_45 : decode prog_1_method_37_code 45 = .ok (.sipush 9999, 3) := by decide +kernel
theorem d_D_payBack_48 : decode prog_1_method_37_code 48 = .ok (.aload 4, 2) := by decide +kernel
theorem d_D_payBack_50 : decode prog_1_method_37_code 50 = .ok (.getfield 118, 3) := by decide +kernel
theorem d_D_payBack_53 : decode prog_1_method_37_code 53 = .ok (.iload_n 2, 1) := by decide +kernel
theorem d_D_payBack_54 : decode prog_1_method_37_code 54 = .ok (.iaload, 1) := by decide +kernel
theorem d_D_payBack_55 : decode prog_1_method_37_code 55 = .ok (.isub, 1) := by decide +kernel
theorem d_D_payBack_56 : decode prog_1_method_37_code 56 = .ok (.invokestatic 326, 3) := by decide +kernel
theorem d_D_payBack_59 : decode prog_1_method_37_code 59 = .ok (.istore 5, 2) := by decide +kernel
theorem d_D_payBack_61 : decode prog_1_method_37_code 61 = .ok (.iload_n 3, 1) := by decide +kernel
theorem d_D_payBack_62 : decode prog_1_method_37_code 62 = .ok (.iload 5, 2) := by decide +kernel
theorem d_D_payBack_64 : decode prog_1_method_37_code 64 = .ok (.invokestatic 326, 3) := by decide +kernel
theorem d_D_payBack_67 : decode prog_1_method_37_code 67 = .ok (.aload 4, 2) := by decide +kernel
theorem d_D_payBack_69 : decode prog_1_method_37_code 69 = .ok (.iload_n 1, 1) := by decide +kernel
theorem d_D_payBack_70 : decode prog_1_method_37_code 70 = .ok (.iload_n 2, 1) := by decide +kernel
theorem d_D_payBack_71 : decode prog_1_method_37_code 71 = .ok (.invokevirtual 176, 3) := by decide +kernel
theorem d_D_payBack_74 : decode prog_1_method_37_code 74 = .ok (.invokestatic 326, 3) := by decide +kernel
theorem d_D_payBack_77 : decode prog_1_method_37_code 77 = .ok (.istore 6, 2) := by decide +kernel
theorem d_D_payBack_79 : decode prog_1_method_37_code 79 = .ok (.iload_n 1, 1) := by decide +kernel
theorem d_D_payBack_80 : decode prog_1_method_37_code 80 = .ok (.iload_n 2, 1) := by decide +kernel
theorem d_D_payBack_81 : decode prog_1_method_37_code 81 = .ok (.if_icmp .eq 8, 3) := by decide +kernel
theorem d_D_payBack_84 : decode prog_1_method_37_code 84 = .ok (.iload 6, 2) := by decide +kernel
theorem d_D_payBack_86 : decode prog_1_method_37_code 86 = .ok (.ifCond .gt 6, 3) := by decide +kernel
theorem d_D_payBack_89 : decode prog_1_method_37_code 89 = .ok (.bipush (-3), 2) := by decide +kernel
theorem d_D_payBack_91 : decode prog_1_method_37_code 91 = .ok (.ireturn, 1) := by decide +kernel
theorem d_D_payBack_92 : decode prog_1_method_37_code 92 = .ok (.aload 4, 2) := by decide +kernel
theorem d_D_payBack_94 : decode prog_1_method_37_code 94 = .ok (.iload_n 1, 1) := by decide +kernel
theorem d_D_payBack_95 : decode prog_1_method_37_code 95 = .ok (.iload_n 2, 1) := by decide +kernel
theorem d_D_payBack_96 : decode prog_1_method_37_code 96 = .ok (.iload 6, 2) := by decide +kernel
theorem d_D_payBack_98 : decode prog_1_method_37_code 98 = .ok (.invokevirtual 304, 3) := by decide +kernel
theorem d_D_payBack_101 : decode prog_1_method_37_code 101 = .ok (.aload 4, 2) := by decide +kernel
theorem d_D_payBack_103 : decode prog_1_method_37_code 103 = .ok (.iload_n 1, 1) := by decide +kernel
theorem d_D_payBack_104 : decode prog_1_method_37_code 104 = .ok (.iload_n 2, 1) := by decide +kernel
theorem d_D_payBack_105 : decode prog_1_method_37_code 105 = .ok (.iload 6, 2) := by decide +kernel
theorem d_D_payBack_107 : decode prog_1_method_37_code 107 = .ok (.invokevirtual 331, 3) := by decide +kernel
theorem d_D_payBack_110 : decode prog_1_method_37_code 110 = .ok (.iload 6, 2) := by decide +kernel
theorem d_D_payBack_112 : decode prog_1_method_37_code 112 = .ok (.ireturn, 1) := by decide +kernel
def w_D_payBack {d : Nat} (hd : 3 ≤ d) := (show SS ("DebtDoors", prog_1_method_37_code, 7) (some .int) d 0 0 0 0 _ from (sS (p1 := 13) (sIf (pn := 13) (tt := 11) (xC (rNot (rJ1 (tgt := 13) k_ne (rS p_D_between (Nat.le_trans (Nat.le_of_ble_eq_true rfl) hd) ls_D_104 (rAi (rAi (rAi rA0 (rIn 3 d_D_payBack_0 rfl)) (rI d_D_payBack_1 rfl)) (rSi d_D_payBack_2 rfl)) (by decide) d_D_payBack_5) d_D_payBack_8 (by decide)))) (sRi (xE (rI d_D_payBack_11 rfl)) d_D_payBack_12 rfl)) (sS (p1 := 32) (sIf (pn := 32) (tt := 29) (xC (rOr (mm := 21) (rNot (rNot (rJ1 (tgt := 29) k_eq (rV p_To_has (Nat.le_trans (Nat.le_of_ble_eq_true rfl) hd) lv_D_137 (rAi (rAr rA0 (rAn 0 d_D_payBack_13 rfl)) (rIn 1 d_D_payBack_14 rfl)) (by decide) d_D_payBack_15) d_D_payBack_18 (by decide)))) (rNot (rJ1 (tgt := 32) k_ne (rV p_To_has (Nat.le_trans (Nat.le_of_ble_eq_true rfl) hd) lv_D_137 (rAi (rAr rA0 (rAn 0 d_D_payBack_21 rfl)) (rIn 2 d_D_payBack_22 rfl)) (by decide) d_D_payBack_23) d_D_payBack_26 (by decide))))) (sRi (xE (rB d_D_payBack_29 rfl)) d_D_payBack_31 rfl)) (sS (p1 := 38) (sR (rFr fl_D_115 nk_9_0 (rAn 0 d_D_payBack_32 rfl) d_D_payBack_33) d_D_payBack_36 (by decide)) (sS (p1 := 61) (sI (xE (rMin km_D_326 (rIa (rFr fl_D_118 nk_1_0 (rAl d_D_payBack_38) d_D_payBack_40) (rIn 1 d_D_payBack_43 rfl) d_D_payBack_44) (r2 o_sub (rSi d_D_payBack_45 rfl) (rIa (rFr fl_D_118 nk_1_0 (rAl d_D_payBack_48) d_D_payBack_50) (rIn 2 d_D_payBack_53 rfl) d_D_payBack_54) d_D_payBack_55) (by decide) (Nat.le_trans (Nat.le_of_ble_eq_true rfl) hd) d_D_payBack_56)) d_D_payBack_59 (by decide)) (sS (p1 := 79) (sI (xE (rMin km_D_326 (rMin km_D_326 (rIn 3 d_D_payBack_61 rfl) (rIl d_D_payBack_62) (by decide) (Nat.le_trans (Nat.le_of_ble_eq_true rfl) hd) d_D_payBack_64) (rV p_Le_owed (Nat.le_trans (Nat.le_of_ble_eq_true rfl) hd) lv_D_176 (rAi (rAi (rAr rA0 (rAl d_D_payBack_67)) (rIn 1 d_D_payBack_69 rfl)) (rIn 2 d_D_payBack_70 rfl)) (by decide) d_D_payBack_71) (by decide) (Nat.le_trans (Nat.le_of_ble_eq_true rfl) hd) d_D_payBack_74)) d_D_payBack_77 (by decide)) (sS (p1 := 92) (sIf (pn := 92) (tt := 89) (xC (rOr (mm := 84) (rJ2 (tgt := 89) j_eq (rIn 1 d_D_payBack_79 rfl) (rIn 2 d_D_payBack_80 rfl) d_D_payBack_81 (by decide)) (rNot (rJ1 (tgt := 92) k_gt (rIl d_D_payBack_84) d_D_payBack_86 (by decide))))) (sRi (xE (rB d_D_payBack_89 rfl)) d_D_payBack_91 rfl)) (sS (p1 := 101) (sV (xVv lv_D_304 (xA (rAi (rAi (rAi (rAr rA0 (rAl d_D_payBack_92)) (rIn 1 d_D_payBack_94 rfl)) (rIn 2 d_D_payBack_95 rfl)) (rIl d_D_payBack_96))) (by decide) d_D_payBack_98)) (sS (p1 := 110) (sV (xVv lv_D_331 (xA (rAi (rAi (rAi (rAr rA0 (rAl d_D_payBack_101)) (rIn 1 d_D_payBack_103 rfl)) (rIn 2 d_D_payBack_104 rfl)) (rIl d_D_payBack_105))) (by decide) d_D_payBack_107)) (sRi (xE (rIl d_D_payBack_110)) d_D_payBack_112 rfl))))))))))
theorem q_D_payBack {d : Nat} (hd : 5 ≤ d) {μ : zMem} {a b m : Int} (hn : 0 ≤ μ 1 6 ∧ μ 1 6 ≤ 7) (hp : okP (μ 3)) (hD : okT (μ 2 5) (fD μ)) : zSp d 0 0 y_D_payBack zT0 [vr 1, vi a, vi b, vi m] μ zT0 (fun r μ' => r = some (vi (payC (μ 1 6) (μ 3) (dbD μ) a b m)) ∧ (payC (μ 1 6) (μ 3) (dbD μ) a b m < 0 → μ' = μ) ∧ (0 ≤ payC (μ 1 6) (μ 3) (dbD μ) a b m → payC (μ 1 6) (μ 3) (dbD μ) a b m = muchC (μ 3) (dbD μ) a b m ∧ (0 < muchC (μ 3) (dbD μ) a b m ∧ a ≠ b) ∧ μ' 3 = zm (zm μ 3 a (μ 3 a - muchC (μ 3) (dbD μ) a b m)) 3 b (μ 3 b + muchC (μ 3) (dbD μ) a b m) 3 ∧ dbD μ' = dpL (lsL a b (muchC (μ 3) (dbD μ) a b m) (dbD μ)) ∧ (0 ≤ μ' 2 5 ∧ μ' 2 5 ≤ μ 2 5) ∧ μ' 2 6 = μ 2 6 ∧ zfc [2, 3, 4, 5, 6, 7] μ μ')) := by
  have hob := owL_b (a := a) (b := b) hD
  refine zSp.ss [vr 1, vi a, vi b, vi m, vx 0, vx 0, vx 0] rfl (w_D_payBack (Nat.le_trans (by decide) hd)) rfl rfl ?_
  (try simp only [zit_e, Bool.and_eq_true, Bool.or_eq_true, Bool.not_eq_true', Bool.and_eq_false_iff, Bool.or_eq_false_iff, Bool.not_eq_false', zbe, zdt, zdf, zb2_p, zbp_0, zbp_1, zbp_inj, zbp_01, Bool.true_eq_false, Bool.false_eq_true, true_and, and_true, Decidable.not_not, Classical.not_not, implies_true, List.nil_append, List.cons_append, List.append_assoc, Option.some.injEq, Sum.inl.injEq, zSw_c, zSw_n]); (try simp only [zit_e, Bool.and_eq_true, Bool.or_eq_true, Bool.not_eq_true', Bool.and_eq_false_iff, Bool.or_eq_false_iff, Bool.not_eq_false', zbe, zdt, zdf, zb2_p, zbp_0, zbp_1, zbp_inj, zbp_01, Bool.true_eq_false, Bool.false_eq_true, true_and, and_true, Decidable.not_not, Classical.not_not, implies_true, List.nil_append, List.cons_append, List.append_assoc, Option.some.injEq, Sum.inl.injEq, zSw_c, zSw_n, zc_1, zc_2, f_D_between, g_D_between, f_To_has, g_To_has, f_Le_owed, g_Le_owed]); (try simp only [zi_cs, zi_c0, zii_cs, zii_c0, zl_cs, zl_c0, zll_cs, zll_c0, zr_cs, zr_c0, zrr_cs, zrr_c0, zxs_cs, zxs_c0, zxx_cs, zxx_c0, zfree_c0, zfree_c1, zfree_cs, zfree_cz, zlong_i, zlong_r, zlong_x, zset_0, zset_s, true_and, and_true, Option.some.injEq, Sum.inl.injEq, Sum.inr.injEq, zb2_p, zbp_0, zbp_1, zbp_inj, zbp_01, Nat.zero_add, Nat.reduceAdd, implies_true, List.nil_append, List.cons_append, List.append_assoc, Int.not_lt, Int.not_le, Decidable.not_not, Int.zero_add, Int.reduceLE, Int.reduceLT, Int.reduceEq, Int.reduceNe, Int.reduceAdd, Int.reduceSub, Int.reduceMul, Int.reduceNeg, Int.reduceToNat, Nat.reduceMul, Nat.reduceLT, Nat.reduceEqDiff, and_self, ite_true, ite_false, zx1, zx2, zRecv, List.length_cons, List.length_nil, ne_eq, not_true_eq_false, not_false_eq_true, true_or, or_true, or_false, false_or, and_false, false_and, zf01, zf10, reduceCtorEq, zSw_c, zSw_n, zm_r, zit_T, zit_F, false_implies, true_implies, zc_1, zc_2, f_D_between, g_D_between, f_To_has, g_To_has, f_Le_owed, g_Le_owed])
  have neg : ∀ {c : Int} {A : Prop}, c < 0 → payC (μ 1 6) (μ 3) (dbD μ) a b m = c → c = payC (μ 1 6) (μ 3) (dbD μ) a b m ∧ (0 ≤ payC (μ 1 6) (μ 3) (dbD μ) a b m → A) := fun hc e => by
    rw [e]
    exact ⟨rfl, fun h => absurd h (by omega)⟩
  refine zif (fun c1 => neg (by decide) (zit_t c1)) (fun c1 => ?_)
  refine zif (fun c2 => neg (by decide) ((zit_f c1).trans (zit_t (by omega)))) (fun c2 => ?_)
  have hpa := hp a (by omega) (by omega)
  have hpb := hp b (by omega) (by omega)
  have em : min (min m (min (μ 3 a) (9999 - μ 3 b))) (owL a b (dbD μ)) = muchC (μ 3) (dbD μ) a b m := by unfold muchC; omega
  simp only [em]
  have hmm : muchC (μ 3) (dbD μ) a b m ≤ μ 3 a ∧ muchC (μ 3) (dbD μ) a b m ≤ 9999 - μ 3 b := by unfold muchC; omega
  refine ⟨by ((try simp only [zI_e]); (first | done | omega | skip)), hD, ?_⟩
  refine zif (fun c3 => neg (by decide) ((zit_f c1).trans ((zit_f (by omega)).trans (zit_t c3)))) (fun c3 => ?_)
  have e : payC (μ 1 6) (μ 3) (dbD μ) a b m = muchC (μ 3) (dbD μ) a b m := (zit_f c1).trans ((zit_f (by omega)).trans (zit_f c3))
  rw [e]
  generalize muchC (μ 3) (dbD μ) a b m = w at *
  have hgt : ∀ v : Int, zm μ 3 a v 3 b = μ 3 b := fun v => by rw [zm_r, zit_t rfl, zit_f (by omega)]
  refine zCw.use (q_Le_pay (d := 1) (by decide) (by omega) (by omega) ⟨by ((try simp only [zI_e]); (first | done | omega | skip)), by rw [hgt]; ((try simp only [zI_e]); (first | done | omega | skip))⟩) (by omega) (fun q μ1 e1 => ?_)
  obtain ⟨rfl, rfl⟩ := e1
  rw [hgt]
  refine ⟨rfl, zCw.use (q_Le_lessen (d := 4) (by decide) hD (by omega)) (by omega) (fun q μ2 e2 => ?_)⟩
  obtain ⟨e0, e1, e2, e3, e4⟩ := e2
  refine ⟨e0, rfl, fun h => absurd h (by omega), fun _ => ⟨rfl, by omega, ?_, ?_, ?_, ?_, ?_⟩⟩
  · rw [e4 3 (by decide)]
  · rw [e1]
    have e9 : dbD (zm (zm μ 3 a (μ 3 a - w)) 3 b (μ 3 b + w)) = dbD μ := dbD_c (fun k hk => by rw [zm_off k (by omega), zm_off k (by omega)]) rfl
    rw [e9]
  · exact e2
  · rw [e3]
    rfl
  · exact (((zfc.rf (cs := [3])).zm (by decide)).zm (by decide) |>.tr e4).mo (by simp)

