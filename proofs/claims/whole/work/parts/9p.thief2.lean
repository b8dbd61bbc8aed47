/-! thieves: the class -/
noncomputable def thS (Z : Zt) (F : Option (List Cls)) (A : Lg) (w : Int → Int) (t h r : Int) : Bt := gS (thO Z F A w t h r) (thM A t h) (thA A) (thP Z F A w) A.2.1.length none (owL h t A.2.1) 0 0
def thV (B : Bt) (x : Int) : Int := match B with
  | none => -1
  | some (p, s) => if x = 0 then p else s
theorem cnN_mo {may : Int → Prop} {i : Nat} : ∀ k : Nat, cnN may i ≤ cnN may (i + k)
  | 0 => Nat.le_refl _
  | k + 1 => by
    have := cnN_mo (may := may) (i := i) k
    rw [show i + (k + 1) = (i + k) + 1 by omega, cnN]
    omega
theorem cnN_lt {may : Int → Prop} {i j : Nat} (h : i < j) (hm : may i) : cnN may i < cnN may j := by
  have := cnN_mo (may := may) (i := i + 1) (j - (i + 1))
  rw [show i + 1 + (j - (i + 1)) = j by omega, cnN_y hm] at this
  omega
theorem fp_8_2 : zFp 8 2 0 := ⟨_, rfl, rfl, rfl, by decide⟩
theorem fp_8_3 : zFp 8 3 0 := ⟨_, rfl, rfl, rfl, by decide⟩
theorem fp_8_4 : zFp 8 4 0 := ⟨_, rfl, rfl, rfl, by decide⟩
theorem fp_8_5 : zFp 8 5 0 := ⟨_, rfl, rfl, rfl, by decide⟩
theorem lv_Th_34 : zLv "DebtDoors$Theft" 34 y_Le_owed 2 1 := ⟨⟨(zTb_in 1177 (by decide +kernel) (by decide +kernel)), m_Le_owed.1, m_Le_owed.2.1, m_Le_owed.2.2⟩, _, rfl, rfl⟩
theorem fl_Th_47 : zFl "DebtDoors$Theft" 47 1 5 := ⟨_, rfl, by decide, (zTb_in 202 (by decide +kernel) (by decide +kernel)), rfl⟩
theorem fl_Th_50 : zFl "DebtDoors$Theft" 50 1 1 := ⟨_, rfl, by decide, (zTb_in 186 (by decide +kernel) (by decide +kernel)), rfl⟩
theorem fl_Th_53 : zFl "DebtDoors$Theft" 53 1 2 := ⟨_, rfl, by decide, (zTb_in 191 (by decide +kernel) (by decide +kernel)), rfl⟩
theorem lv_Th_56 : zLv "DebtDoors$Theft" 56 y_Ru_ofDebt 3 7 := ⟨⟨(zTb_in 1178 (by decide +kernel) (by decide +kernel)), m_Ru_ofDebt.1, m_Ru_ofDebt.2.1, m_Ru_ofDebt.2.2⟩, _, rfl, rfl⟩
def y_Th_seek : zMt := (⟨"DebtDoors$Theft", "seek", "(LDebtDoors$Town;LDebtDoors$Rules;III)Z"⟩, prog_10_method_2_code, 9, some .boolean)
theorem d_Th_seek_0 : decode prog_10_method_2_code 0 = .ok (.aload_n 1, 1) := by decide +kernel
theorem d_Th_seek_1 : decode prog_10_method_2_code 1 = .ok (.getfield 18, 3) := by decide +kernel
theorem d_Th_seek_4 : decode prog_10_method_2_code 4 = .ok (.astore 6, 2) := by decide +kernel
theorem d_Th_seek_6 : decode prog_10_method_2_code 6 = .ok (.aload_n 0, 1) := by decide +kernel
theorem d_Th_seek_7 : decode prog_10_method_2_code 7 = .ok (.iload_n 3, 1) := by decide +kernel
theorem d_Th_seek_8 : decode prog_10_method_2_code 8 = .ok (.putfield 24, 3) := by decide +kernel
theorem d_Th_seek_11 : decode prog_10_method_2_code 11 = .ok (.aload_n 0, 1) := by decide +kernel
theorem d_Th_seek_12 : decode prog_10_method_2_code 12 = .ok (.iload 4, 2) := by decide +kernel
theorem d_Th_seek_14 : decode prog_10_method_2_code 14 = .ok (.putfield 28, 3) := by decide +kernel
theorem d_Th_seek_17 : decode prog_10_method_2_code 17 = .ok (.aload_n 0, 1) := by decide +kernel
theorem d_Th_seek_18 : decode prog_10_method_2_code 18 = .ok (.iload 5, 2) := by decide +kernel
theorem d_Th_seek_20 : decode prog_10_method_2_code 20 = .ok (.putfield 31, 3) := by decide +kernel
theorem d_Th_seek_23 : decode prog_10_method_2_code 23 = .ok (.aload_n 0, 1) := by decide +kernel
theorem d_Th_seek_24 : decode prog_10_method_2_code 24 = .ok (.aload 6, 2) := by decide +kernel
theorem d_Th_seek_26 : decode prog_10_method_2_code 26 = .ok (.iload_n 3, 1) := by decide +kernel
theorem d_Th_seek_27 : decode prog_10_method_2_code 27 = .ok (.iload 4, 2) := by decide +kernel
theorem d_Th_seek_29 : decode prog_10_method_2_code 29 = .ok (.invokevirtual 34, 3) := by decide +kernel
theorem d_Th_seek_32 : decode prog_10_method_2_code 32 = .ok (.putfield 40, 3) := by decide +kernel
theorem d_Th_seek_35 : decode prog_10_method_2_code 35 = .ok (.aload_n 0, 1) := by decide +kernel
theorem d_Th_seek_36 : decode prog_10_method_2_code 36 = .ok (.iconst 0, 1) := by decide +kernel
theorem d_Th_seek_37 : decode prog_10_method_2_code 37 = .ok (.putfield 43, 3) := by decide +kernel
theorem d_Th_seek_40 : decode prog_10_method_2_code 40 = .ok (.iconst 0, 1) := by decide +kernel
theorem d_Th_seek_41 : decode prog_10_method_2_code 41 = .ok (.istore 7, 2) := by decide +kernel
theorem d_Th_seek_43 : decode prog_10_method_2_code 43 = .ok (.iconst 0, 1) := by decide +kernel
theorem d_Th_seek_44 : decode prog_10_method_2_code 44 = .ok (.istore 8, 2) := by decide +kernel
theorem d_Th_seek_46 : decode prog_10_method_2_code 46 = .ok (.iload 8, 2) := by decide +kernel
theorem d_Th_seek_48 : decode prog_10_method_2_code 48 = .ok (.aload 6, 2) := by decide +kernel
theorem d_Th_seek_50 : decode prog_10_method_2_code 50 = .ok (.getfield 47, 3) := by decide +kernel
theorem d_Th_seek_53 : decode prog_10_method_2_code 53 = .ok (.if_icmp .ge 61, 3) := by decide +kernel
theorem d_Th_seek_56 : decode prog_10_method_2_code 56 = .ok (.aload 6, 2) := by decide +kernel
theorem d_Th_seek_58 : decode prog_10_method_2_code 58 = .ok (.getfield 50, 3) := by decide +kernel
theorem d_Th_seek_61 : decode prog_10_method_2_code 61 = .ok (.iload 8, 2) := by decide +kernel
theorem d_Th_seek_63 : decode prog_10_method_2_code 63 = .ok (.iaload, 1) := by decide +kernel
theorem d_Th_seek_64 : decode prog_10_method_2_code 64 = .ok (.iload 4, 2) := by decide +kernel
theorem d_Th_seek_66 : decode prog_10_method_2_code 66 = .ok (.if_icmp .ne 42, 3) := by decide +kernel
theorem d_Th_seek_69 : decode prog_10_method_2_code 69 = .ok (.aload 6, 2) := by decide +kernel
theorem d_Th_seek_71 : decode prog_10_method_2_code 71 = .ok (.getfield 53, 3) := by decide +kernel
theorem d_Th_seek_74 : decode prog_10_method_2_code 74 = .ok (.iload 8, 2) := by decide +kernel
theorem d_Th_seek_76 : decode prog_10_method_2_code 76 = .ok (.iaload, 1) := by decide +kernel
theorem d_Th_seek_77 : decode prog_10_method_2_code 77 = .ok (.iload_n 3, 1) := by decide +kernel
theorem d_Th_seek_78 : decode prog_10_method_2_code 78 = .ok (.if_icmp .eq 30, 3) := by decide +kernel
theorem d_Th_seek_81 : decode prog_10_method_2_code 81 = .ok (.aload_n 0, 1) := by decide +kernel
theorem d_Th_seek_82 : decode prog_10_method_2_code 82 = .ok (.getfield 9, 3) := by decide +kernel
theorem d_Th_seek_85 : decode prog_10_method_2_code 85 = .ok (.iload 7, 2) := by decide +kernel
theorem d_Th_seek_87 : decode prog_10_method_2_code 87 = .ok (.iload 8, 2) := by decide +kernel
theorem d_Th_seek_89 : decode prog_10_method_2_code 89 = .ok (.iastore, 1) := by decide +kernel
theorem d_Th_seek_90 : decode prog_10_method_2_code 90 = .ok (.aload_n 0, 1) := by decide +kernel
theorem d_Th_seek_91 : decode prog_10_method_2_code 91 = .ok (.getfield 15, 3) := by decide +kernel
theorem d_Th_seek_94 : decode prog_10_method_2_code 94 = .ok (.iload 7, 2) := by decide +kernel
theorem d_Th_seek_96 : decode prog_10_method_2_code 96 = .ok (.aload_n 2, 1) := by decide +kernel
theorem d_Th_seek_97 : decode prog_10_method_2_code 97 = .ok (.aload_n 1, 1) := by decide +kernel
theorem d_Th_seek_98 : decode prog_10_method_2_code 98 = .ok (.iload 8, 2) := by decide +kernel
theorem d_Th_seek_100 : decode prog_10_method_2_code 100 = .ok (.iconst 2, 1) := by decide +kernel
theorem d_Th_seek_101 : decode prog_10_method_2_code 101 = .ok (.invokevirtual 56, 3) := by decide +kernel
theorem d_Th_seek_104 : decode prog_10_method_2_code 104 = .ok (.iastore, 1) := by decide +kernel
theorem d_Th_seek_105 : decode prog_10_method_2_code 105 = .ok (.iinc 7 1, 3) := by decide +kernel
theorem d_Th_seek_108 : decode prog_10_method_2_code 108 = .ok (.iinc 8 1, 3) := by decide +kernel
theorem d_Th_seek_111 : decode prog_10_method_2_code 111 = .ok (.goto (-65), 3) := by decide +kernel
theorem d_Th_seek_114 : decode prog_10_method_2_code 114 = .ok (.aload_n 0, 1) := by decide +kernel
theorem d_Th_seek_115 : decode prog_10_method_2_code 115 = .ok (.aload_n 1, 1) := by decide +kernel
theorem d_Th_seek_116 : decode prog_10_method_2_code 116 = .ok (.aload_n 2, 1) := by decide +kernel
theorem d_Th_seek_117 : decode prog_10_method_2_code 117 = .ok (.iload 7, 2) := by decide +kernel
theorem d_Th_seek_119 : decode prog_10_method_2_code 119 = .ok (.iconst 1, 1) := by decide +kernel
theorem d_Th_seek_120 : decode prog_10_method_2_code 120 = .ok (.isub, 1) := by decide +kernel
theorem d_Th_seek_121 : decode prog_10_method_2_code 121 = .ok (.aload 6, 2) := by decide +kernel
theorem d_Th_seek_123 : decode prog_10_method_2_code 123 = .ok (.iload 4, 2) := by decide +kernel
theorem d_Th_seek_125 : decode prog_10_method_2_code 125 = .ok (.iload_n 3, 1) := by decide +kernel
theorem d_Th_seek_126 : decode prog_10_method_2_code 126 = .ok (.invokevirtual 34, 3) := by decide +kernel
theorem d_Th_seek_129 : decode prog_10_method_2_code 129 = .ok (.iconst 0, 1) := by decide +kernel
theorem d_Th_seek_130 : decode prog_10_method_2_code 130 = .ok (.iconst 0, 1) := by decide +kernel
theorem d_Th_seek_131 : decode prog_10_method_2_code 131 = .ok (.invokevirtual 62, 3) := by decide +kernel
theorem d_Th_seek_134 : decode prog_10_method_2_code 134 = .ok (.aload_n 0, 1) := by decide +kernel
theorem d_Th_seek_135 : decode prog_10_method_2_code 135 = .ok (.getfield 43, 3) := by decide +kernel
theorem d_Th_seek_138 : decode prog_10_method_2_code 138 = .ok (.ireturn, 1) := by decide +kernel
def w_Th_seek {d : Nat} (hd : 2 ≤ d) := (show SS ("DebtDoors$Theft", prog_10_method_2_code, 9) (some .boolean) d 0 0 0 0 _ from (sS (p1 := 6) (sR (rFr fl_Th_18 nk_9_0 (rAn 1 d_Th_seek_0 rfl) d_Th_seek_1) d_Th_seek_4 (by decide)) (sS (p1 := 11) (sP 2 fl_Th_24 fp_8_2 nk_8_2 (rAn 0 d_Th_seek_6 rfl) (xE (rIn 3 d_Th_seek_7 rfl)) d_Th_seek_8 rfl) (sS (p1 := 17) (sP 3 fl_Th_28 fp_8_3 nk_8_3 (rAn 0 d_Th_seek_11 rfl) (xE (rIl d_Th_seek_12)) d_Th_seek_14 rfl) (sS (p1 := 23) (sP 4 fl_Th_31 fp_8_4 nk_8_4 (rAn 0 d_Th_seek_17 rfl) (xE (rIl d_Th_seek_18)) d_Th_seek_20 rfl) (sS (p1 := 35) (sP 5 fl_Th_40 fp_8_5 nk_8_5 (rAn 0 d_Th_seek_23 rfl) (xE (rV p_Le_owed (Nat.le_trans (Nat.le_of_ble_eq_true rfl) hd) lv_Th_34 (rAi (rAi (rAr rA0 (rAl d_Th_seek_24)) (rIn 3 d_Th_seek_26 rfl)) (rIl d_Th_seek_27)) (by decide) d_Th_seek_29)) d_Th_seek_32 rfl) (sS (p1 := 40) (sP 6 fl_Th_43 fp_8_6 nk_8_6 (rAn 0 d_Th_seek_35 rfl) (xE (rI d_Th_seek_36 rfl)) d_Th_seek_37 rfl) (sS (p1 := 43) (sI (xE (rI d_Th_seek_40 rfl)) d_Th_seek_41 (by decide)) (sS (p1 := 114) (sS (p1 := 46) (sI (xE (rI d_Th_seek_43 rfl)) d_Th_seek_44 (by decide)) (sLp (ps := 108) (tt := 56) (pn := 114) (p1 := 0) (p2 := 0) (xC (rNot (rJ2 (tgt := 114) j_ge (rIl d_Th_seek_46) (rF 5 fl_Th_47 nk_1_5 (rAl d_Th_seek_48) d_Th_seek_50 rfl) d_Th_seek_53 (by decide)))) (sIf (pn := 108) (tt := 81) (xC (rAnd (mm := 69) (rNot (rJ2 (tgt := 108) j_ne (rIa (rFr fl_Th_50 nk_1_1 (rAl d_Th_seek_56) d_Th_seek_58) (rIl d_Th_seek_61) d_Th_seek_63) (rIl d_Th_seek_64) d_Th_seek_66 (by decide))) (rNot (rJ2 (tgt := 108) j_eq (rIa (rFr fl_Th_53 nk_1_2 (rAl d_Th_seek_69) d_Th_seek_71) (rIl d_Th_seek_74) d_Th_seek_76) (rIn 3 d_Th_seek_77 rfl) d_Th_seek_78 (by decide))))) (sS (p1 := 90) (sAs (rFr fl_Th_9 nk_8_0 (rAn 0 d_Th_seek_81 rfl) d_Th_seek_82) (rIl d_Th_seek_85) (xE (rIl d_Th_seek_87)) d_Th_seek_89) (sS (p1 := 105) (sAs (rFr fl_Th_15 nk_8_1 (rAn 0 d_Th_seek_90 rfl) d_Th_seek_91) (rIl d_Th_seek_94) (xV lv_Th_56 (xA (rAi (rAi (rAr (rAr rA0 (rAn 2 d_Th_seek_96 rfl)) (rAn 1 d_Th_seek_97 rfl)) (rIl d_Th_seek_98)) (rI d_Th_seek_100 rfl))) (by decide) d_Th_seek_101) d_Th_seek_104) (sInc d_Th_seek_105 (by decide))))) (sGo (pn := 46) (sInc d_Th_seek_108 (by decide)) d_Th_seek_111 (by decide)))) (sS (p1 := 134) (sV (xVv lv_Th_62 (xA (rAi (rAi (rAi (rAi (rAr (rAr (rAr rA0 (rAn 0 d_Th_seek_114 rfl)) (rAn 1 d_Th_seek_115 rfl)) (rAn 2 d_Th_seek_116 rfl)) (r2 o_sub (rIl d_Th_seek_117) (rI d_Th_seek_119 rfl) d_Th_seek_120)) (rV p_Le_owed (Nat.le_trans (Nat.le_of_ble_eq_true rfl) hd) lv_Th_34 (rAi (rAi (rAr rA0 (rAl d_Th_seek_121)) (rIl d_Th_seek_123)) (rIn 3 d_Th_seek_125 rfl)) (by decide) d_Th_seek_126)) (rI d_Th_seek_129 rfl)) (rI d_Th_seek_130 rfl))) (by decide) d_Th_seek_131)) (sRz (xE (rF 6 fl_Th_43 nk_8_6 (rAn 0 d_Th_seek_134 rfl) d_Th_seek_135 rfl)) d_Th_seek_138 rfl)))))))))))
theorem q_Th_seek {d : Nat} (hd : 25 ≤ d) {μ : zMem} {Z : Zt} {F : Option (List Cls)} {A : Lg} {w : Int → Int} {t h r : Int} (hC : CTx μ Z F A w) (ht : 0 ≤ t ∧ t ≤ 6) (hh : 0 ≤ h ∧ h ≤ 6) : zSp d 0 0 y_Th_seek zT0 [vr 343, vr 1, vr 324, vi t, vi h, vi r] μ zT0 (fun q μ' => q = some (vi (μ' 343 6)) ∧ BtC (thS Z F A w t h r) μ' ∧ zfc [325, 326, 327, 343, 344, 345] μ μ' ∧ wK w (μ' 326)) := by
  have hw := hC.2.2.2.2.2
  have hd0 := hC.d
  have h16 := hC.2.1.2.1.1
  refine zSp.ss [vr 343, vr 1, vr 324, vi t, vi h, vi r, vx 0, vx 0, vx 0] rfl (w_Th_seek (Nat.le_trans (by decide) hd)) rfl rfl ?_
  (try simp only [zit_e, Bool.and_eq_true, Bool.or_eq_true, Bool.not_eq_true', Bool.and_eq_false_iff, Bool.or_eq_false_iff, Bool.not_eq_false', zbe, zdt, zdf, zb2_p, zbp_0, zbp_1, zbp_inj, zbp_01, Bool.true_eq_false, Bool.false_eq_true, true_and, and_true, Decidable.not_not, Classical.not_not, implies_true, List.nil_append, List.cons_append, List.append_assoc, Option.some.injEq, Sum.inl.injEq, zSw_c, zSw_n]); (try simp only [zit_e, Bool.and_eq_true, Bool.or_eq_true, Bool.not_eq_true', Bool.and_eq_false_iff, Bool.or_eq_false_iff, Bool.not_eq_false', zbe, zdt, zdf, zb2_p, zbp_0, zbp_1, zbp_inj, zbp_01, Bool.true_eq_false, Bool.false_eq_true, true_and, and_true, Decidable.not_not, Classical.not_not, implies_true, List.nil_append, List.cons_append, List.append_assoc, Option.some.injEq, Sum.inl.injEq, zSw_c, zSw_n, zc_343, zc_1, zc_2, zc_324, f_Le_owed, g_Le_owed]); (try simp only [zi_cs, zi_c0, zii_cs, zii_c0, zl_cs, zl_c0, zll_cs, zll_c0, zr_cs, zr_c0, zrr_cs, zrr_c0, zxs_cs, zxs_c0, zxx_cs, zxx_c0, zfree_c0, zfree_c1, zfree_cs, zfree_cz, zlong_i, zlong_r, zlong_x, zset_0, zset_s, true_and, and_true, Option.some.injEq, Sum.inl.injEq, Sum.inr.injEq, zb2_p, zbp_0, zbp_1, zbp_inj, zbp_01, Nat.zero_add, Nat.reduceAdd, implies_true, List.nil_append, List.cons_append, List.append_assoc, Int.not_lt, Int.not_le, Decidable.not_not, Int.zero_add, Int.reduceLE, Int.reduceLT, Int.reduceEq, Int.reduceNe, Int.reduceAdd, Int.reduceSub, Int.reduceMul, Int.reduceNeg, Int.reduceToNat, Nat.reduceMul, Nat.reduceLT, Nat.reduceEqDiff, and_self, ite_true, ite_false, zx1, zx2, zRecv, List.length_cons, List.length_nil, ne_eq, not_true_eq_false, not_false_eq_true, true_or, or_true, or_false, false_or, and_false, false_and, zf01, zf10, reduceCtorEq, zSw_c, zSw_n, zm_r, zit_T, zit_F, false_implies, true_implies, zc_343, zc_1, zc_2, zc_324, f_Le_owed, g_Le_owed])
  have eD : ∀ a b : Int, owL a b (dbD (zm (zm (zm μ 343 2 t) 343 3 h) 343 4 r)) = owL a b A.2.1 := fun a b => by
    rw [← hd0.1]
    congr 1
  rw [eD]
  refine ⟨?_, ?_⟩
  · rw [show fD (zm (zm (zm μ 343 2 t) 343 3 h) 343 4 r) = fD μ by unfold fD; rw [zm_off 4 (by decide), zm_off 4 (by decide), zm_off 4 (by decide), zm_off 5 (by decide), zm_off 5 (by decide), zm_off 5 (by decide), zm_off 6 (by decide), zm_off 6 (by decide), zm_off 6 (by decide), zm_off 7 (by decide), zm_off 7 (by decide), zm_off 7 (by decide)]]
    exact hd0.2.2.2.1
  generalize hμ0 : zm (zm (zm (zm (zm μ 343 2 t) 343 3 h) 343 4 r) 343 5 (owL t h A.2.1)) 343 6 0 = μ0
  have f0 : zfc [325, 326, 327, 343, 344, 345] μ μ0 := by
    rw [← hμ0]
    exact ((((zfc.rf.zm (by decide)).zm (by decide)).zm (by decide)).zm (by decide)).zm (by decide)
  have k0 : (μ0 343 2 = t ∧ μ0 343 3 = h ∧ μ0 343 4 = r ∧ μ0 343 5 = owL t h A.2.1) ∧ μ0 343 6 = 0 := by
    rw [← hμ0]
    refine ⟨⟨?_, ?_, ?_, ?_⟩, zm_s⟩
    all_goals
      (repeat rw [zm_o (by omega)])
      rw [zm_s]
  have k1 : μ0 326 = μ 326 := by rw [← hμ0, zm_off _ (by decide), zm_off _ (by decide), zm_off _ (by decide), zm_off _ (by decide), zm_off _ (by decide)]
  clear hμ0
  refine zLoop.up A.2.1.length (fun j ρ μ1 => ρ = [vr 343, vr 1, vr 324, vi t, vi h, vi r, vr 2, vi (cnN (thM A t h) j : Int), vi j] ∧ ((μ1 343 2 = t ∧ μ1 343 3 = h ∧ μ1 343 4 = r ∧ μ1 343 5 = owL t h A.2.1) ∧ ∀ i : Nat, i < j → thM A t h i → μ1 344 (cnN (thM A t h) i : Int) = i ∧ μ1 345 (cnN (thM A t h) i : Int) = thP Z F A w i) ∧ μ1 343 6 = 0 ∧ zfc [325, 326, 327, 343, 344, 345] μ μ1 ∧ wK w (μ1 326)) ⟨rfl, ⟨k0.1, fun i hi => absurd hi (Nat.not_lt_zero i)⟩, k0.2, f0, by rw [k1]; exact hw⟩ ?_
  rintro j ρ μ1 hj ⟨rfl, ⟨hk, hA⟩, hz, hF, hw1⟩
  have hC1 : CTx μ1 Z F A w := hC.k (fun c hc => hF c (by simp only [List.mem_cons, List.not_mem_nil, or_false]; omega)) hw1
  have hd1 := hC1.d
  (try simp only [zit_e, Bool.and_eq_true, Bool.or_eq_true, Bool.not_eq_true', Bool.and_eq_false_iff, Bool.or_eq_false_iff, Bool.not_eq_false', zbe, zdt, zdf, zb2_p, zbp_0, zbp_1, zbp_inj, zbp_01, Bool.true_eq_false, Bool.false_eq_true, true_and, and_true, Decidable.not_not, Classical.not_not, implies_true, List.nil_append, List.cons_append, List.append_assoc, Option.some.injEq, Sum.inl.injEq, zSw_c, zSw_n]); (try simp only [zit_e, Bool.and_eq_true, Bool.or_eq_true, Bool.not_eq_true', Bool.and_eq_false_iff, Bool.or_eq_false_iff, Bool.not_eq_false', zbe, zdt, zdf, zb2_p, zbp_0, zbp_1, zbp_inj, zbp_01, Bool.true_eq_false, Bool.false_eq_true, true_and, and_true, Decidable.not_not, Classical.not_not, implies_true, List.nil_append, List.cons_append, List.append_assoc, Option.some.injEq, Sum.inl.injEq, zSw_c, zSw_n, zc_343, zc_1, zc_2, zc_324, f_Le_owed, g_Le_owed]); (try simp only [zi_cs, zi_c0, zii_cs, zii_c0, zl_cs, zl_c0, zll_cs, zll_c0, zr_cs, zr_c0, zrr_cs, zrr_c0, zxs_cs, zxs_c0, zxx_cs, zxx_c0, zfree_c0, zfree_c1, zfree_cs, zfree_cz, zlong_i, zlong_r, zlong_x, zset_0, zset_s, true_and, and_true, Option.some.injEq, Sum.inl.injEq, Sum.inr.injEq, zb2_p, zbp_0, zbp_1, zbp_inj, zbp_01, Nat.zero_add, Nat.reduceAdd, implies_true, List.nil_append, List.cons_append, List.append_assoc, Int.not_lt, Int.not_le, Decidable.not_not, Int.zero_add, Int.reduceLE, Int.reduceLT, Int.reduceEq, Int.reduceNe, Int.reduceAdd, Int.reduceSub, Int.reduceMul, Int.reduceNeg, Int.reduceToNat, Nat.reduceMul, Nat.reduceLT, Nat.reduceEqDiff, and_self, ite_true, ite_false, zx1, zx2, zRecv, List.length_cons, List.length_nil, ne_eq, not_true_eq_false, not_false_eq_true, true_or, or_true, or_false, false_or, and_false, false_and, zf01, zf10, reduceCtorEq, zSw_c, zSw_n, zm_r, zit_T, zit_F, false_implies, true_implies, zc_343, zc_1, zc_2, zc_324, f_Le_owed, g_Le_owed])
  rw [hd1.2.2.2.2]
  have hle := cnN_le (may := thM A t h) j
  refine zif (fun c0 => ?_) (fun c0 => ?_)
  · obtain ⟨e1, e2⟩ := hC1.e (k := j) (by omega) c0
    have e4 : μ1 4 (j : Int) = (dbt A j).1 ∧ μ1 5 (j : Int) = (dbt A j).2.1 := ⟨congrArg (fun x => x.1) e1, congrArg (fun x => x.2.1) e1⟩
    refine ⟨⟨by omega, fun _ => by omega⟩, ?_⟩
    refine zif (fun c1 => ?_) (fun c1 => ?_)
    · rw [e4.1, e4.2] at c1
      have hm : thM A t h j := c1
      have hC2 : CTx (zm μ1 344 (cnN (thM A t h) j : Int) (j : Int)) Z F A w := hC1.k (fun c hc => zm_off _ (by omega)) (by rw [zm_off _ (by decide)]; exact hw1)
      refine ⟨by omega, by omega, by omega, by omega, ?_⟩
      refine zCw.use (q_C_ofDebt (d := 6) (by decide) hC2 (by omega) c0 (Or.inr rfl)) (by omega) (fun q μ2 e => ?_)
      obtain ⟨rfl, hF2⟩ := e
      have k343 : μ2 343 = μ1 343 := (hF2.1 343 (by decide)).trans (zm_off _ (by decide))
      have k344 : μ2 344 = (zm μ1 344 (cnN (thM A t h) j : Int) (j : Int)) 344 := hF2.1 344 (by decide)
      have k345 : μ2 345 = μ1 345 := (hF2.1 345 (by decide)).trans (zm_off _ (by decide))
      refine ⟨_, rfl, zI_s (by omega) (by omega), zI_s (by omega) (by omega), A.2.1.length - (j + 1), by omega, j + 1, rfl, by omega, by rw [cnN_y hm]; rfl, ⟨by rw [k343]; exact hk, fun i hi hmi => ?_⟩, by rw [k343]; exact hz, ((hF.zm (by decide)).tr hF2.1).mo (b := [325, 326, 327, 343, 344, 345]) (by simp) |>.zm (by decide), by rw [zm_off _ (by decide)]; exact hF2.2⟩
      by_cases ei : i = j
      · subst ei
        rw [zit_t rfl, k344, zm_s]
        exact ⟨rfl, rfl⟩
      · have hlt := cnN_lt (may := thM A t h) (i := i) (j := j) (by omega) hmi
        rw [zit_f (by omega), k344, k345, zm_o (by omega)]
        exact hA i (by omega) hmi
    · rw [e4.1, e4.2] at c1
      have hm : ¬ thM A t h j := c1
      refine ⟨zI_s (by omega) (by omega), A.2.1.length - (j + 1), by omega, j + 1, rfl, by omega, by rw [cnN_n hm]; rfl, ⟨hk, fun i hi hmi => ?_⟩, hz, hF, hw1⟩
      by_cases ei : i = j
      · subst ei
        exact absurd hmi hm
      · exact hA i (by omega) hmi
  · have ej : j = A.2.1.length := by omega
    subst ej
    rw [hd1.1]
    have b1 := owA (a := h) (b := t) hC.2.1
    refine ⟨⟨zI_s (by omega) (by omega), by rw [← hd1.2.2.2.2]; exact hd1.2.2.2.1⟩, ?_⟩
    have hpow : 2 ^ A.2.1.length ≤ 2 ^ 16 := Nat.pow_le_pow_right (by decide) h16
    have hB0 : BtC none μ1 := hz
    have := q_Th_choose (Z := Z) (F := F) (A := A) (w := w) (r := r) ht hh A.2.1.length (Nat.le_refl _) (d := 24) (by omega) (owed := owL h t A.2.1) (paid := 0) (c := 0) hC1 hB0 ⟨hk, fun i hi hmi => hA i hi hmi⟩ ⟨by omega, by omega⟩ ⟨by omega, by omega⟩ (Nat.zero_mod _) (by omega)
    refine zCw.use this (by omega) (fun q μ2 e => ?_)
    obtain ⟨rfl, hB, hF2⟩ := e
    refine ⟨rfl, ?_, hB, (hF.tr hF2.1).mo (by simp), hF2.2.2⟩
    change BtC (thS Z F A w t h r) μ2 at hB
    generalize thS Z F A w t h r = B at hB
    rcases B with _ | ⟨p, s⟩
    · exact Or.inl hB
    · exact Or.inr hB.1
theorem m_Th_seek : Cond.instanceMethod y_Th_seek.1 ∈ zTb ∧ Cond.selects y_Th_seek.1.cls y_Th_seek.1 y_Th_seek.1 ∈ zTb ∧ Cond.initialized y_Th_seek.1.cls ∈ zTb ∧ Cond.code y_Th_seek.1 y_Th_seek.2.1 y_Th_seek.2.2.1 y_Th_seek.2.2.2 ∈ zTb ∧ (y_Th_seek.1.cls ≠ "java/lang/invoke/MethodHandle" ∧ y_Th_seek.1.cls ≠ "java/lang/invoke/VarHandle" ∧ (parseMethodDescriptor y_Th_seek.1.desc).map (fun d => d.parameters.length) = some 5) ∧ y_Th_seek.2.2.1 ≤ 20 :=
  ⟨(zTb_in 1174 (by decide +kernel) (by decide +kernel)), (zTb_in 1175 (by decide +kernel) (by decide +kernel)), (zTb_in 148 (by decide +kernel) (by decide +kernel)), (zTb_in 1176 (by decide +kernel) (by decide +kernel)), by decide +kernel, by decide +kernel⟩
theorem lv_D_367 : zLv "DebtDoors" 367 y_Th_seek 5 8 := ⟨⟨(zTb_in 1173 (by decide +kernel) (by decide +kernel)), m_Th_seek.1, m_Th_seek.2.1, m_Th_seek.2.2⟩, _, rfl, rfl⟩
theorem nk_11_10 : zNk 11 10 = none := rfl
theorem fl_D_370 : zFl "DebtDoors" 370 8 7 := ⟨_, rfl, by decide, (zTb_in 471 (by decide +kernel) (by decide +kernel)), rfl⟩
theorem fl_D_373 : zFl "DebtDoors" 373 8 8 := ⟨_, rfl, by decide, (zTb_in 473 (by decide +kernel) (by decide +kernel)), rfl⟩
def y_D_thief : zMt := (⟨"DebtDoors", "thief", "(IIII)I"⟩, prog_1_method_45_code, 5, some .int)
theorem d_D_thief_0 : decode prog_1_method_45_code 0 = .ok (.aload_n 0, 1) := by decide +kernel
theorem d_D_thief_1 : decode prog_1_method_45_code 1 = .ok (.getfield 12, 3) := by decide +kernel
theorem d_D_thief_4 : decode prog_1_method_45_code 4 = .ok (.iload_n 2, 1) := by decide +kernel
theorem d_D_thief_5 : decode prog_1_method_45_code 5 = .ok (.iload_n 1, 1) := by decide +kernel
theorem d_D_thief_6 : decode prog_1_method_45_code 6 = .ok (.invokevirtual 173, 3) := by decide +kernel
theorem d_D_thief_9 : decode prog_1_method_45_code 9 = .ok (.ifCond .eq 22, 3) := by decide +kernel
theorem d_D_thief_12 : decode prog_1_method_45_code 12 = .ok (.iload_n 3, 1) := by decide +kernel
theorem d_D_thief_13 : decode prog_1_method_45_code 13 = .ok (.iconst 1, 1) := by decide +kernel
theorem d_D_thief_14 : decode prog_1_method_45_code 14 = .ok (.iconst 3, 1) := by decide +kernel
theorem d_D_thief_15 : decode prog_1_method_45_code 15 = .ok (.invokestatic 104, 3) := by decide +kernel
theorem d_D_thief_18 : decode prog_1_method_45_code 18 = .ok (.ifCond .eq 13, 3) := by decide +kernel
theorem d_D_thief_21 : decode prog_1_method_45_code 21 = .ok (.iload 4, 2) := by decide +kernel
theorem d_D_thief_23 : decode prog_1_method_45_code 23 = .ok (.iconst 0, 1) := by decide +kernel
theorem d_D_thief_24 : decode prog_1_method_45_code 24 = .ok (.iconst 1, 1) := by decide +kernel
theorem d_D_thief_25 : decode prog_1_method_45_code 25 = .ok (.invokestatic 104, 3) := by decide +kernel
theorem d_D_thief_28 : decode prog_1_method_45_code 28 = .ok (.ifCond .ne 5, 3) := by decide +kernel
theorem d_D_thief_31 : decode prog_1_method_45_code 31 = .ok (.iconst (-1), 1) := by decide +kernel
theorem d_D_thief_32 : decode prog_1_method_45_code 32 = .ok (.ireturn, 1) := by decide +kernel
theorem d_D_thief_33 : decode prog_1_method_45_code 33 = .ok (.aload_n 0, 1) := by decide +kernel
theorem d_D_thief_34 : decode prog_1_method_45_code 34 = .ok (.getfield 72, 3) := by decide +kernel
theorem d_D_thief_37 : decode prog_1_method_45_code 37 = .ok (.aload_n 0, 1) := by decide +kernel
theorem d_D_thief_38 : decode prog_1_method_45_code 38 = .ok (.getfield 12, 3) := by decide +kernel
theorem d_D_thief_41 : decode prog_1_method_45_code 41 = .ok (.aload_n 0, 1) := by decide +kernel
theorem d_D_thief_42 : decode prog_1_method_45_code 42 = .ok (.getfield 51, 3) := by decide +kernel
theorem d_D_thief_45 : decode prog_1_method_45_code 45 = .ok (.iload_n 1, 1) := by decide +kernel
theorem d_D_thief_46 : decode prog_1_method_45_code 46 = .ok (.iload_n 2, 1) := by decide +kernel
theorem d_D_thief_47 : decode prog_1_method_45_code 47 = .ok (.iload_n 3, 1) := by decide +kernel
theorem d_D_thief_48 : decode prog_1_method_45_code 48 = .ok (.invokevirtual 367, 3) := by decide +kernel
theorem d_D_thief_51 : decode prog_1_method_45_code 51 = .ok (.ifCond .ne 5, 3) := by decide +kernel
theorem d_D_thief_54 : decode prog_1_method_45_code 54 = .ok (.iconst (-1), 1) := by decide +kernel
theorem d_D_thief_55 : decode prog_1_method_45_code 55 = .ok (.ireturn, 1) := by decide +kernel
theorem d_D_thief_56 : decode prog_1_method_45_code 56 = .ok (.iload 4, 2) := by decide +kernel
theorem d_D_thief_58 : decode prog_1_method_45_code 58 = .ok (.ifCond .ne 13, 3) := by decide +kernel
theorem d_D_thief_61 : decode prog_1_method_45_code 61 = .ok (.aload_n 0, 1) := by decide +kernel
theorem d_D_thief_62 : decode prog_1_method_45_code 62 = .ok (.getfield 72, 3) := by decide +kernel
theorem d_D_thief_65 : decode prog_1_method_45_code 65 = .ok (.getfield 370, 3) := by decide +kernel
theorem d_D_thief_68 : decode prog_1_method_45_code 68 = .ok (.goto 10, 3) := by decide +kernel
theorem d_D_thief_71 : decode prog_1_method_45_code 71 = .ok (.aload_n 0, 1) := by decide +kernel
theorem d_D_thief_72 : decode prog_1_method_45_code 72 = .ok (.getfield 72, 3) := by decide +kernel
theorem d_D_thief_75 : decode prog_1_method_45_code 75 = .ok (.getfield 373, 3) := by decide +kernel
theorem d_D_thief_78 : decode prog_1_method_45_code 78 = .ok (.ireturn, 1) := by decide +kernel
def w_D_thief {d : Nat} (hd : 3 ≤ d) := (show SS ("DebtDoors", prog_1_method_45_code, 5) (some .int) d 0 0 0 0 _ from (sS (p1 := 33) (sIf (pn := 33) (tt := 31) (xC (rOr (mm := 21) (rOr (mm := 12) (rNot (rNot (rJ1 (tgt := 31) k_eq (rV p_To_hasPair (Nat.le_trans (Nat.le_of_ble_eq_true rfl) hd) lv_D_173 (rAi (rAi (rAr rA0 (rFr fl_D_12 nk_11_0 (rAn 0 d_D_thief_0 rfl) d_D_thief_1)) (rIn 2 d_D_thief_4 rfl)) (rIn 1 d_D_thief_5 rfl)) (by decide) d_D_thief_6) d_D_thief_9 (by decide)))) (rNot (rNot (rJ1 (tgt := 31) k_eq (rS p_D_between (Nat.le_trans (Nat.le_of_ble_eq_true rfl) hd) ls_D_104 (rAi (rAi (rAi rA0 (rIn 3 d_D_thief_12 rfl)) (rI d_D_thief_13 rfl)) (rI d_D_thief_14 rfl)) (by decide) d_D_thief_15) d_D_thief_18 (by decide))))) (rNot (rJ1 (tgt := 33) k_ne (rS p_D_between (Nat.le_trans (Nat.le_of_ble_eq_true rfl) hd) ls_D_104 (rAi (rAi (rAi rA0 (rIl d_D_thief_21)) (rI d_D_thief_23 rfl)) (rI d_D_thief_24 rfl)) (by decide) d_D_thief_25) d_D_thief_28 (by decide))))) (sRi (xE (rI d_D_thief_31 rfl)) d_D_thief_32 rfl)) (sS (p1 := 56) (sIf (pn := 56) (tt := 54) (xNot (xJ1 (tgt := 56) k_ne (xV lv_D_367 (xA (rAi (rAi (rAi (rAr (rAr (rAr rA0 (rFr fl_D_72 nk_11_10 (rAn 0 d_D_thief_33 rfl) d_D_thief_34)) (rFr fl_D_12 nk_11_0 (rAn 0 d_D_thief_37 rfl) d_D_thief_38)) (rFr fl_D_51 nk_11_7 (rAn 0 d_D_thief_41 rfl) d_D_thief_42)) (rIn 1 d_D_thief_45 rfl)) (rIn 2 d_D_thief_46 rfl)) (rIn 3 d_D_thief_47 rfl))) (by decide) d_D_thief_48) d_D_thief_51 (by decide))) (sRi (xE (rI d_D_thief_54 rfl)) d_D_thief_55 rfl)) (sRi (xE (rT2 (rNot (rJ1 (tgt := 71) k_ne (rIl d_D_thief_56) d_D_thief_58 (by decide))) (rGoE (p2 := 78) (rF 7 fl_D_370 nk_8_7 (rFr fl_D_72 nk_11_10 (rAn 0 d_D_thief_61 rfl) d_D_thief_62) d_D_thief_65 rfl) d_D_thief_68 (by decide)) (rF 8 fl_D_373 nk_8_8 (rFr fl_D_72 nk_11_10 (rAn 0 d_D_thief_71 rfl) d_D_thief_72) d_D_thief_75 rfl))) d_D_thief_78 rfl))))
theorem q_D_thief {d : Nat} (hd : 26 ≤ d) {μ : zMem} {Z : Zt} {F : Option (List Cls)} {A : Lg} {w : Int → Int} {t h r x : Int} (hC : CTx μ Z F A w) : zSp d 0 0 y_D_thief zT0 [vr 0, vi t, vi h, vi r, vi x] μ zT0 (fun q μ' => q = some (vi (zit ((h ≠ t ∧ (0 ≤ h ∧ h < Z.1) ∧ 0 ≤ t ∧ t < Z.1) ∧ (1 ≤ r ∧ r ≤ 3) ∧ 0 ≤ x ∧ x ≤ 1) (thV (thS Z F A w t h r) x) (-1))) ∧ HM μ μ' ∧ KC μ μ') := by
  have hn := hC.1.1
  have e6 := hC.2.2.1.1
  refine zSp.ss [vr 0, vi t, vi h, vi r, vi x] rfl (w_D_thief (Nat.le_trans (by decide) hd)) rfl rfl ?_
  (try simp only [zit_e, Bool.and_eq_true, Bool.or_eq_true, Bool.not_eq_true', Bool.and_eq_false_iff, Bool.or_eq_false_iff, Bool.not_eq_false', zbe, zdt, zdf, zb2_p, zbp_0, zbp_1, zbp_inj, zbp_01, Bool.true_eq_false, Bool.false_eq_true, true_and, and_true, Decidable.not_not, Classical.not_not, implies_true, List.nil_append, List.cons_append, List.append_assoc, Option.some.injEq, Sum.inl.injEq, zSw_c, zSw_n]); (try simp only [zit_e, Bool.and_eq_true, Bool.or_eq_true, Bool.not_eq_true', Bool.and_eq_false_iff, Bool.or_eq_false_iff, Bool.not_eq_false', zbe, zdt, zdf, zb2_p, zbp_0, zbp_1, zbp_inj, zbp_01, Bool.true_eq_false, Bool.false_eq_true, true_and, and_true, Decidable.not_not, Classical.not_not, implies_true, List.nil_append, List.cons_append, List.append_assoc, Option.some.injEq, Sum.inl.injEq, zSw_c, zSw_n, zc_0, zc_1, zc_324, zc_343, f_To_hasPair, g_To_hasPair, f_D_between, g_D_between]); (try simp only [zi_cs, zi_c0, zii_cs, zii_c0, zl_cs, zl_c0, zll_cs, zll_c0, zr_cs, zr_c0, zrr_cs, zrr_c0, zxs_cs, zxs_c0, zxx_cs, zxx_c0, zfree_c0, zfree_c1, zfree_cs, zfree_cz, zlong_i, zlong_r, zlong_x, zset_0, zset_s, true_and, and_true, Option.some.injEq, Sum.inl.injEq, Sum.inr.injEq, zb2_p, zbp_0, zbp_1, zbp_inj, zbp_01, Nat.zero_add, Nat.reduceAdd, implies_true, List.nil_append, List.cons_append, List.append_assoc, Int.not_lt, Int.not_le, Decidable.not_not, Int.zero_add, Int.reduceLE, Int.reduceLT, Int.reduceEq, Int.reduceNe, Int.reduceAdd, Int.reduceSub, Int.reduceMul, Int.reduceNeg, Int.reduceToNat, Nat.reduceMul, Nat.reduceLT, Nat.reduceEqDiff, and_self, ite_true, ite_false, zx1, zx2, zRecv, List.length_cons, List.length_nil, ne_eq, not_true_eq_false, not_false_eq_true, true_or, or_true, or_false, false_or, and_false, false_and, zf01, zf10, reduceCtorEq, zSw_c, zSw_n, zm_r, zit_T, zit_F, false_implies, true_implies, zc_0, zc_1, zc_324, zc_343, f_To_hasPair, g_To_hasPair, f_D_between, g_D_between])
  rw [e6]
  refine zif (fun c => ⟨(zit_f (by omega)).symm, HM.rf, KC.rf⟩) (fun c => ?_)
  refine zCw.use (q_Th_seek (d := 25) (by decide) (r := r) hC (t := t) (h := h) (by omega) (by omega)) (by omega) (fun q μ2 e => ?_)
  obtain ⟨rfl, hB, hF, hw⟩ := e
  have hm : HM μ μ2 := hF.hm (by simp)
  have hk : KC μ μ2 := hF.kc2 (by simp [scC]) (fun _ => hw.2)
  refine ⟨_, rfl, ?_⟩
  rw [zit_t (by omega)]
  generalize thS Z F A w t h r = B at hB
  rcases B with _ | ⟨p, s⟩
  · have hB : μ2 343 6 = 0 := hB
    rw [if_pos hB]
    exact ⟨rfl, hm, hk⟩
  · obtain ⟨h1, h2, h3, h4⟩ : μ2 343 6 = 1 ∧ μ2 343 7 = p ∧ μ2 343 8 = s ∧ 0 ≤ s ∧ s < 65536 := hB
    rw [if_neg (by omega), h2, h3]
    refine ⟨?_, hm, hk⟩
    unfold thV
    simp only
    rw [zit_e]

