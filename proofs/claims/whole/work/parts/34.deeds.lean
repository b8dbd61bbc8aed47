/-! lending and paying back -/
noncomputable def lendC (n : Int) (pu : Int → Int) (nd g t m : Int) : Int := zit (¬ (1 ≤ m ∧ m ≤ 9999)) (-1) (zit (¬ ((0 ≤ g ∧ g < n) ∧ 0 ≤ t ∧ t < n)) (-2) (zit (g = t ∨ ¬ (m ≤ pu g ∧ pu t + m ≤ 9999)) (-3) (zit (16 ≤ nd) (-5) m)))
/-- purses in bounds -/
def okP (pu : Int → Int) : Prop := ∀ i : Int, 0 ≤ i → i < 7 → 0 ≤ pu i ∧ pu i ≤ 9999
theorem dbD_c {μ μ' : zMem} (h : ∀ k, (k = 4 ∨ k = 5 ∨ k = 6 ∨ k = 7) → μ' k = μ k) (h2 : μ' 2 5 = μ 2 5) : dbD μ' = dbD μ := by
  unfold dbD fD
  rw [h2, h 4 (by omega), h 5 (by omega), h 6 (by omega), h 7 (by omega)]
theorem m_Le_canPay : Cond.instanceMethod y_Le_canPay.1 ∈ zTb ∧ Cond.selects y_Le_canPay.1.cls y_Le_canPay.1 y_Le_canPay.1 ∈ zTb ∧ Cond.initialized y_Le_canPay.1.cls ∈ zTb ∧ Cond.code y_Le_canPay.1 y_Le_canPay.2.1 y_Le_canPay.2.2.1 y_Le_canPay.2.2.2 ∈ zTb ∧ (y_Le_canPay.1.cls ≠ "java/lang/invoke/MethodHandle" ∧ y_Le_canPay.1.cls ≠ "java/lang/invoke/VarHandle" ∧ (parseMethodDescriptor y_Le_canPay.1.desc).map (fun d => d.parameters.length) = some 3) ∧ y_Le_canPay.2.2.1 ≤ 20 :=
  ⟨(zTb_in 967 (by decide +kernel) (by decide +kernel)), (zTb_in 968 (by decide +kernel) (by decide +kernel)), (zTb_in 141 (by decide +kernel) (by decide +kernel)), (zTb_in 969 (by decide +kernel) (by decide +kernel)), by decide +kernel, by decide +kernel⟩
theorem lv_D_301 : zLv "DebtDoors" 301 y_Le_canPay 3 1 := ⟨⟨(zTb_in 966 (by decide +kernel) (by decide +kernel)), m_Le_canPay.1, m_Le_canPay.2.1, m_Le_canPay.2.2⟩, _, rfl, rfl⟩
theorem m_Le_pay : Cond.instanceMethod y_Le_pay.1 ∈ zTb ∧ Cond.selects y_Le_pay.1.cls y_Le_pay.1 y_Le_pay.1 ∈ zTb ∧ Cond.initialized y_Le_pay.1.cls ∈ zTb ∧ Cond.code y_Le_pay.1 y_Le_pay.2.1 y_Le_pay.2.2.1 y_Le_pay.2.2.2 ∈ zTb ∧ (y_Le_pay.1.cls ≠ "java/lang/invoke/MethodHandle" ∧ y_Le_pay.1.cls ≠ "java/lang/invoke/VarHandle" ∧ (parseMethodDescriptor y_Le_pay.1.desc).map (fun d => d.parameters.length) = some 3) ∧ y_Le_pay.2.2.1 ≤ 20 :=
  ⟨(zTb_in 951 (by decide +kernel) (by decide +kernel)), (zTb_in 952 (by decide +kernel) (by decide +kernel)), (zTb_in 141 (by decide +kernel) (by decide +kernel)), (zTb_in 953 (by decide +kernel) (by decide +kernel)), by decide +kernel, by decide +kernel⟩
theorem lv_D_304 : zLv "DebtDoors" 304 y_Le_pay 3 1 := ⟨⟨(zTb_in 950 (by decide +kernel) (by decide +kernel)), m_Le_pay.1, m_Le_pay.2.1, m_Le_pay.2.2⟩, _, rfl, rfl⟩
theorem m_Le_add : Cond.instanceMethod y_Le_add.1 ∈ zTb ∧ Cond.selects y_Le_add.1.cls y_Le_add.1 y_Le_add.1 ∈ zTb ∧ Cond.initialized y_Le_add.1.cls ∈ zTb ∧ Cond.code y_Le_add.1 y_Le_add.2.1 y_Le_add.2.2.1 y_Le_add.2.2.2 ∈ zTb ∧ (y_Le_add.1.cls ≠ "java/lang/invoke/MethodHandle" ∧ y_Le_add.1.cls ≠ "java/lang/invoke/VarHandle" ∧ (parseMethodDescriptor y_Le_add.1.desc).map (fun d => d.parameters.length) = some 3) ∧ y_Le_add.2.2.1 ≤ 20 :=
  ⟨(zTb_in 642 (by decide +kernel) (by decide +kernel)), (zTb_in 643 (by decide +kernel) (by decide +kernel)), (zTb_in 141 (by decide +kernel) (by decide +kernel)), (zTb_in 644 (by decide +kernel) (by decide +kernel)), by decide +kernel, by decide +kernel⟩
theorem lv_D_149 : zLv "DebtDoors" 149 y_Le_add 3 1 := ⟨⟨(zTb_in 641 (by decide +kernel) (by decide +kernel)), m_Le_add.1, m_Le_add.2.1, m_Le_add.2.2⟩, _, rfl, rfl⟩
def y_D_lendOut : zMt := (⟨"DebtDoors", "lendOut", "(LDebtDoors$Town;III)I"⟩, prog_1_method_36_code, 5, some .int)
theorem d_D_lendOut_0 : decode prog_1_method_36_code 0 = .ok (.iload_n 3, 1) := by decide +kernel
theorem d_D_lendOut_1 : decode prog_1_method_36_code 1 = .ok (.iconst 1, 1) := by decide +kernel
theorem d_D_lendOut_2 : decode prog_1_method_36_code 2 = .ok (.sipush 9999, 3) := by decide +kernel
theorem d_D_lendOut_5 : decode prog_1_method_36_code 5 = .ok (.invokestatic 104, 3) := by decide +kernel
theorem d_D_lendOut_8 : decode prog_1_method_36_code 8 = .ok (.ifCond .ne 5, 3) := by decide +kernel
theorem d_D_lendOut_11 : decode prog_1_method_36_code 11 = .ok (.iconst (-1), 1) := by decide +kernel
theorem d_D_lendOut_12 : decode prog_1_method_36_code 12 = .ok (.ireturn, 1) := by decide +kernel
theorem d_D_lendOut_13 : decode prog_1_method_36_code 13 = .ok (.aload_n 0, 1) := by decide +kernel
theorem d_D_lendOut_14 : decode prog_1_method_36_code 14 = .ok (.iload_n 1, 1) := by decide +kernel
theorem d_D_lendOut_15 : decode prog_1_method_36_code 15 = .ok (.invokevirtual 137, 3) := by decide +kernel
theorem d_D_lendOut_18 : decode prog_1_method_36_code 18 = .ok (.ifCond .eq 11, 3) := by decide +kernel
theorem d_D_lendOut_21 : decode prog_1_method_36_code 21 = .ok (.aload_n 0, 1) := by decide +kernel
theorem d_D_lendOut_22 : decode prog_1_method_36_code 22 = .ok (.iload_n 2, 1) := by decide +kernel
theorem d_D_lendOut_23 : decode prog_1_method_36_code 23 = .ok (.invokevirtual 137, 3) := by decide +kernel
theorem d_D_lendOut_26 : decode prog_1_method_36_code 26 = .ok (.ifCond .ne 6, 3) := by decide +kernel
theorem d_D_lendOut_29 : decode prog_1_method_36_code 29 = .ok (.bipush (-2), 2) := by decide +kernel
theorem d_D_lendOut_31 : decode prog_1_method_36_code 31 = .ok (.ireturn, 1) := by decide +kernel
theorem d_D_lendOut_32 : decode prog_1_method_36_code 32 = .ok (.aload_n 0, 1) := by decide +kernel
theorem d_D_lendOut_33 : decode prog_1_method_36_code 33 = .ok (.getfield 115, 3) := by decide +kernel
theorem d_D_lendOut_36 : decode prog_1_method_36_code 36 = .ok (.astore 4, 2) := by decide +kernel
theorem d_D_lendOut_38 : decode prog_1_method_36_code 38 = .ok (.iload_n 1, 1) := by decide +kernel
theorem d_D_lendOut_39 : decode prog_1_method_36_code 39 = .ok (.iload_n 2, 1) := by decide +kernel
theorem d_D_lendOut_40 : decode prog_1_method_36_code 40 = .ok (.if_icmp .eq 14, 3) := by decide +kernel
theorem d_D_lendOut_43 : decode prog_1_method_36_code 43 = .ok (.aload 4, 2) := by decide +kernel
theorem d_D_lendOut_45 : decode prog_1_method_36_code 45 = .ok (.iload_n 1, 1) := by decide +kernel
theorem d_D_lendOut_46 : decode prog_1_method_36_code 46 = .ok (.iload_n 2, 1) := by decide +kernel
theorem d_D_lendOut_47 : decode prog_1_method_36_code 47 = .ok (.iload_n 3, 1) := by decide +kernel
theorem d_D_lendOut_48 : decode prog_1_method_36_code 48 = .ok (.invokevirtual 301, 3) := by decide +kernel
theorem d_D_lendOut_51 : decode prog_1_method_36_code 51 = .ok (.ifCond .ne 6, 3) := by decide +kernel
theorem d_D_lendOut_54 : decode prog_1_method_36_code 54 = .ok (.bipush (-3), 2) := by decide +kernel
theorem d_D_lendOut_56 : decode prog_1_method_36_code 56 = .ok (.ireturn, 1) := by decide +kernel
theorem d_D_lendOut_57 : decode prog_1_method_36_code 57 = .ok (.aload 4, 2) := by decide +kernel
theorem d_D_lendOut_59 : decode prog_1_method_36_code 59 = .ok (.getfield 153, 3) := by decide +kernel
theorem d_D_lendOut_62 : decode prog_1_method_36_code 62 = .ok (.bipush 16, 2) := by decide +kernel
theorem d_D_lendOut_64 : decode prog_1_method_36_code 64 = .ok (.if_icmp .lt 6, 3) := by decide +kernel
theorem d_D_lendOut_67 : decode prog_1_method_36_code 67 = .ok (.bipush (-5), 2) := by decide +kernel
theorem d_D_lendOut_69 : decode prog_1_method_36_code 69 = .ok (.ireturn, 1) := by decide +kernel
theorem d_D_lendOut_70 : decode prog_1_method_36_code 70 = .ok (.aload 4, 2) := by decide +kernel
theorem d_D_lendOut_72 : decode prog_1_method_36_code 72 = .ok (.iload_n 1, 1) := by decide +kernel
theorem d_D_lendOut_73 : decode prog_1_method_36_code 73 = .ok (.iload_n 2, 1) := by decide +kernel
theorem d_D_lendOut_74 : decode prog_1_method_36_code 74 = .ok (.iload_n 3, 1) := by decide +kernel
theorem d_D_lendOut_75 : decode prog_1_method_36_code 75 = .ok (.invokevirtual 304, 3) := by decide +kernel
theorem d_D_lendOut_78 : decode prog_1_method_36_code 78 = .ok (.aload 4, 2) := by decide +kernel
theorem d_D_lendOut_80 : decode prog_1_method_36_code 80 = .ok (.iload_n 2, 1) := by decide +kernel
theorem d_D_lendOut_81 : decode prog_1_method_36_code 81 = .ok (.iload_n 1, 1) := by decide +kernel
theorem d_D_lendOut_82 : decode prog_1_method_36_code 82 = .ok (.iload_n 3, 1) := by decide +kernel
theorem d_D_lendOut_83 : decode prog_1_method_36_code 83 = .ok (.invokevirtual 149, 3) := by decide +kernel
theorem d_D_lendOut_86 : decode prog_1_method_36_code 86 = .ok (.iload_n 3, 1) := by decide +kernel
theorem d_D_lendOut_87 : decode prog_1_method_36_code 87 = .ok (.ireturn, 1) := by decide +kernel
def w_D_lendOut {d : Nat} (hd : 2 ≤ d) := (show SS ("DebtDoors", prog_1_method_36_code, 5) (some .int) d 0 0 0 0 _ from (sS (p1 := 13) (sIf (pn := 13) (tt := 11) (xC (rNot (rJ1 (tgt := 13) k_ne (rS p_D_between (Nat.le_trans (Nat.le_of_ble_eq_true rfl) hd) ls_D_104 (rAi (rAi (rAi rA0 (rIn 3 d_D_lendOut_0 rfl)) (rI d_D_lendOut_1 rfl)) (rSi d_D_lendOut_2 rfl)) (by decide) d_D_lendOut_5) d_D_lendOut_8 (by decide)))) (sRi (xE (rI d_D_lendOut_11 rfl)) d_D_lendOut_12 rfl)) (sS (p1 := 32) (sIf (pn := 32) (tt := 29) (xC (rOr (mm := 21) (rNot (rNot (rJ1 (tgt := 29) k_eq (rV p_To_has (Nat.le_trans (Nat.le_of_ble_eq_true rfl) hd) lv_D_137 (rAi (rAr rA0 (rAn 0 d_D_lendOut_13 rfl)) (rIn 1 d_D_lendOut_14 rfl)) (by decide) d_D_lendOut_15) d_D_lendOut_18 (by decide)))) (rNot (rJ1 (tgt := 32) k_ne (rV p_To_has (Nat.le_trans (Nat.le_of_ble_eq_true rfl) hd) lv_D_137 (rAi (rAr rA0 (rAn 0 d_D_lendOut_21 rfl)) (rIn 2 d_D_lendOut_22 rfl)) (by decide) d_D_lendOut_23) d_D_lendOut_26 (by decide))))) (sRi (xE (rB d_D_lendOut_29 rfl)) d_D_lendOut_31 rfl)) (sS (p1 := 38) (sR (rFr fl_D_115 nk_9_0 (rAn 0 d_D_lendOut_32 rfl) d_D_lendOut_33) d_D_lendOut_36 (by decide)) (sS (p1 := 57) (sIf (pn := 57) (tt := 54) (xC (rOr (mm := 43) (rJ2 (tgt := 54) j_eq (rIn 1 d_D_lendOut_38 rfl) (rIn 2 d_D_lendOut_39 rfl) d_D_lendOut_40 (by decide)) (rNot (rJ1 (tgt := 57) k_ne (rV p_Le_canPay (Nat.le_trans (Nat.le_of_ble_eq_true rfl) hd) lv_D_301 (rAi (rAi (rAi (rAr rA0 (rAl d_D_lendOut_43)) (rIn 1 d_D_lendOut_45 rfl)) (rIn 2 d_D_lendOut_46 rfl)) (rIn 3 d_D_lendOut_47 rfl)) (by decide) d_D_lendOut_48) d_D_lendOut_51 (by decide))))) (sRi (xE (rB d_D_lendOut_54 rfl)) d_D_lendOut_56 rfl)) (sS (p1 := 70) (sIf (pn := 70) (tt := 67) (xC (rNot (rJ2 (tgt := 70) j_lt (rF 5 fl_D_153 nk_1_5 (rAl d_D_lendOut_57) d_D_lendOut_59 rfl) (rB d_D_lendOut_62 rfl) d_D_lendOut_64 (by decide)))) (sRi (xE (rB d_D_lendOut_67 rfl)) d_D_lendOut_69 rfl)) (sS (p1 := 78) (sV (xVv lv_D_304 (xA (rAi (rAi (rAi (rAr rA0 (rAl d_D_lendOut_70)) (rIn 1 d_D_lendOut_72 rfl)) (rIn 2 d_D_lendOut_73 rfl)) (rIn 3 d_D_lendOut_74 rfl))) (by decide) d_D_lendOut_75)) (sS (p1 := 86) (sV (xVv lv_D_149 (xA (rAi (rAi (rAi (rAr rA0 (rAl d_D_lendOut_78)) (rIn 2 d_D_lendOut_80 rfl)) (rIn 1 d_D_lendOut_81 rfl)) (rIn 3 d_D_lendOut_82 rfl))) (by decide) d_D_lendOut_83)) (sRi (xE (rIn 3 d_D_lendOut_86 rfl)) d_D_lendOut_87 rfl)))))))))
theorem q_D_lendOut {d : Nat} (hd : 3 ≤ d) {μ : zMem} {g t m : Int} (hn : 0 ≤ μ 1 6 ∧ μ 1 6 ≤ 7) (hp : okP (μ 3)) (hD : 0 ≤ μ 2 5 ∧ μ 2 5 ≤ 16) : zSp d 0 0 y_D_lendOut zT0 [vr 1, vi g, vi t, vi m] μ zT0 (fun r μ' => r = some (vi (lendC (μ 1 6) (μ 3) (μ 2 5) g t m)) ∧ (lendC (μ 1 6) (μ 3) (μ 2 5) g t m < 0 → μ' = μ) ∧ (0 ≤ lendC (μ 1 6) (μ 3) (μ 2 5) g t m → lendC (μ 1 6) (μ 3) (μ 2 5) g t m = m ∧ μ' 3 = zm (zm μ 3 g (μ 3 g - m)) 3 t (μ 3 t + m) 3 ∧ dbD μ' = dbD μ ++ [(t, g, m, μ 2 6)] ∧ μ' 2 5 = μ 2 5 + 1 ∧ μ' 2 6 = μ 2 6 ∧ zfc [2, 3, 4, 5, 6, 7] μ μ')) := by
  refine zSp.ss [vr 1, vi g, vi t, vi m, vx 0] rfl (w_D_lendOut (Nat.le_trans (by decide) hd)) rfl rfl ?_
  (try simp only [zit_e, Bool.and_eq_true, Bool.or_eq_true, Bool.not_eq_true', Bool.and_eq_false_iff, Bool.or_eq_false_iff, Bool.not_eq_false', zbe, zdt, zdf, zb2_p, zbp_0, zbp_1, zbp_inj, zbp_01, Bool.true_eq_false, Bool.false_eq_true, true_and, and_true, Decidable.not_not, Classical.not_not, implies_true, List.nil_append, List.cons_append, List.append_assoc, Option.some.injEq, Sum.inl.injEq, zSw_c, zSw_n]); (try simp only [zit_e, Bool.and_eq_true, Bool.or_eq_true, Bool.not_eq_true', Bool.and_eq_false_iff, Bool.or_eq_false_iff, Bool.not_eq_false', zbe, zdt, zdf, zb2_p, zbp_0, zbp_1, zbp_inj, zbp_01, Bool.true_eq_false, Bool.false_eq_true, true_and, and_true, Decidable.not_not, Classical.not_not, implies_true, List.nil_append, List.cons_append, List.append_assoc, Option.some.injEq, Sum.inl.injEq, zSw_c, zSw_n, zc_1, zc_2, f_D_between, g_D_between, f_To_has, g_To_has, f_Le_canPay, g_Le_canPay]); (try simp only [zi_cs, zi_c0, zii_cs, zii_c0, zl_cs, zl_c0, zll_cs, zll_c0, zr_cs, zr_c0, zrr_cs, zrr_c0, zxs_cs, zxs_c0, zxx_cs, zxx_c0, zfree_c0, zfree_c1, zfree_cs, zfree_cz, zlong_i, zlong_r, zlong_x, zset_0, zset_s, true_and, and_true, Option.some.injEq, Sum.inl.injEq, Sum.inr.injEq, zb2_p, zbp_0, zbp_1, zbp_inj, zbp_01, Nat.zero_add, Nat.reduceAdd, implies_true, List.nil_append, List.cons_append, List.append_assoc, Int.not_lt, Int.not_le, Decidable.not_not, Int.zero_add, Int.reduceLE, Int.reduceLT, Int.reduceEq, Int.reduceNe, Int.reduceAdd, Int.reduceSub, Int.reduceMul, Int.reduceNeg, Int.reduceToNat, Nat.reduceMul, Nat.reduceLT, Nat.reduceEqDiff, and_self, ite_true, ite_false, zx1, zx2, zRecv, List.length_cons, List.length_nil, ne_eq, not_true_eq_false, not_false_eq_true, true_or, or_true, or_false, false_or, and_false, false_and, zf01, zf10, reduceCtorEq, zSw_c, zSw_n, zm_r, zit_T, zit_F, false_implies, true_implies, zc_1, zc_2, f_D_between, g_D_between, f_To_has, g_To_has, f_Le_canPay, g_Le_canPay])
  have neg : ∀ {c : Int} {A : Prop}, c < 0 → lendC (μ 1 6) (μ 3) (μ 2 5) g t m = c → c = lendC (μ 1 6) (μ 3) (μ 2 5) g t m ∧ (0 ≤ lendC (μ 1 6) (μ 3) (μ 2 5) g t m → A) := fun hc e => by
    rw [e]
    exact ⟨rfl, fun h => absurd h (by omega)⟩
  refine zif (fun c1 => neg (by decide) (zit_t c1)) (fun c1 => ?_)
  refine zif (fun c2 => neg (by decide) ((zit_f c1).trans (zit_t (by omega)))) (fun c2 => ?_)
  have hpg := hp g (by omega) (by omega)
  have hpt := hp t (by omega) (by omega)
  refine ⟨by omega, ?_⟩
  refine zif (fun c3 => neg (by decide) ((zit_f c1).trans ((zit_f (by omega)).trans (zit_t c3)))) (fun c3 => ?_)
  refine zif (fun c4 => neg (by decide) ((zit_f c1).trans ((zit_f (by omega)).trans ((zit_f c3).trans (zit_t c4))))) (fun c4 => ?_)
  have e : lendC (μ 1 6) (μ 3) (μ 2 5) g t m = m := (zit_f c1).trans ((zit_f (by omega)).trans ((zit_f c3).trans (zit_f c4)))
  rw [e]
  have hgt : ∀ v : Int, zm μ 3 g v 3 t = μ 3 t := fun v => by rw [zm_r, zit_t rfl, zit_f (by omega)]
  refine zCw.use (q_Le_pay (d := 1) (by decide) (by omega) (by omega) ⟨by ((try simp only [zI_e]); (first | done | omega | skip)), by rw [hgt]; ((try simp only [zI_e]); (first | done | omega | skip))⟩) (by omega) (fun q μ1 e1 => ?_)
  obtain ⟨rfl, rfl⟩ := e1
  rw [hgt]
  refine ⟨rfl, zCw.use (q_Le_add (d := 1) (by decide) ?_) (by omega) (fun q μ2 e2 => ?_)⟩
  · simp only [zm_r, zit_F, Nat.reduceEqDiff]
    omega
  · obtain ⟨e0, e1, e2, e3, e4⟩ := e2
    refine ⟨e0, rfl, fun h => absurd h (by omega), fun _ => ⟨rfl, ?_, ?_, ?_, ?_, ?_⟩⟩
    · rw [e4 3 (by decide)]
    · rw [e3]
      have e9 : dbD (zm (zm μ 3 g (μ 3 g - m)) 3 t (μ 3 t + m)) = dbD μ := dbD_c (fun k hk => by rw [zm_off k (by omega), zm_off k (by omega)]) rfl
      rw [e9]
      rfl
    · rw [e1]
      rfl
    · rw [e2]
      rfl
    · exact (((zfc.rf (cs := [3])).zm (by decide)).zm (by decide) |>.tr e4).mo (by simp)

