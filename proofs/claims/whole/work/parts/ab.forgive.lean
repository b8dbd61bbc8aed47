/-! forgive -/
theorem dbD_am {μ : zMem} {i v : Int} (h0 : 0 ≤ i) (h : i < μ 2 5) : dbD (zm μ 6 i v) = (dbD μ).set i.toNat ((fD μ i).1, (fD μ i).2.1, v, (fD μ i).2.2.2) := by
  unfold dbD
  rw [zm_off 2 (by decide), tL_set (by omega)]
  refine tL_congr (fun j a b => ?_)
  unfold fD
  rw [zm_off 4 (by decide), zm_off 5 (by decide), zm_off 7 (by decide), show ((i.toNat : Nat) : Int) = i by omega]
  by_cases c : j = i
  · rw [if_pos c, zm_r, zit_t rfl, zit_t c, c]
  · rw [if_neg c, zm_r, zit_t rfl, zit_f c]
theorem dpL_all : ∀ {l : List D4}, (∀ x, x ∈ l → okd x) → dpL l = l
  | [], _ => rfl
  | x :: l, h => by
    have h1 := (h x List.mem_cons_self).2.2.2.1
    have ih := dpL_all (l := l) (fun y hy => h y (List.mem_cons_of_mem _ hy))
    unfold dpL at *
    rw [List.filter_cons, if_pos (decide_eq_true (by omega)), ih]
theorem dpL_set0 : ∀ {l : List D4} {k : Nat} {y : D4}, (∀ x, x ∈ l → okd x) → k < l.length → y.2.2.1 = 0 → dpL (l.set k y) = l.eraseIdx k
  | [], _, _, _, hk, _ => absurd hk (Nat.not_lt_zero _)
  | x :: l, 0, y, h, _, hy => by
    have ih := dpL_all (l := l) (fun y hy => h y (List.mem_cons_of_mem _ hy))
    rw [List.set_cons_zero, List.eraseIdx_zero]
    show dpL (y :: l) = l
    unfold dpL at *
    rw [List.filter_cons, if_neg (by rw [hy]; decide), ih]
  | x :: l, k + 1, y, h, hk, hy => by
    have h1 := (h x List.mem_cons_self).2.2.2.1
    have ih := dpL_set0 (l := l) (k := k) (fun y hy => h y (List.mem_cons_of_mem _ hy)) (by rw [List.length_cons] at hk; omega) hy
    rw [List.set_cons_succ, List.eraseIdx_cons_succ]
    unfold dpL at *
    rw [List.filter_cons, if_pos (decide_eq_true (by omega)), ih]
def fgA (A : Lg) (k : Int) : Lg := (A.1, A.2.1.eraseIdx k.toNat, A.2.2)
theorem fgA_ok {A : Lg} {k : Int} (h : okA A) : okA (fgA A k) := ⟨h.1, ⟨by
  have := h.2.1.1
  show (A.2.1.eraseIdx k.toNat).length ≤ 16
  have := List.length_eraseIdx_le A.2.1 k.toNat
  omega, fun x hx => h.2.1.2 x (List.mem_of_mem_eraseIdx hx)⟩, h.2.2⟩
theorem lv_D_298 : zLv "DebtDoors" 298 y_Le_dropPaid 0 1 := ⟨⟨(zTb_in 1023 (by decide +kernel) (by decide +kernel)), m_Le_dropPaid.1, m_Le_dropPaid.2.1, m_Le_dropPaid.2.2⟩, _, rfl, rfl⟩
def y_D_forgive : zMt := (⟨"DebtDoors", "forgive", "(I)I"⟩, prog_1_method_30_code, 4, some .int)
theorem d_D_forgive_0 : decode prog_1_method_30_code 0 = .ok (.aload_n 0, 1) := by decide +kernel
theorem d_D_forgive_1 : decode prog_1_method_30_code 1 = .ok (.getfield 12, 3) := by decide +kernel
theorem d_D_forgive_4 : decode prog_1_method_30_code 4 = .ok (.getfield 115, 3) := by decide +kernel
theorem d_D_forgive_7 : decode prog_1_method_30_code 7 = .ok (.astore_n 2, 1) := by decide +kernel
theorem d_D_forgive_8 : decode prog_1_method_30_code 8 = .ok (.aload_n 2, 1) := by decide +kernel
theorem d_D_forgive_9 : decode prog_1_method_30_code 9 = .ok (.iload_n 1, 1) := by decide +kernel
theorem d_D_forgive_10 : decode prog_1_method_30_code 10 = .ok (.invokevirtual 156, 3) := by decide +kernel
theorem d_D_forgive_13 : decode prog_1_method_30_code 13 = .ok (.ifCond .ne 10, 3) := by decide +kernel
theorem d_D_forgive_16 : decode prog_1_method_30_code 16 = .ok (.aload_n 0, 1) := by decide +kernel
theorem d_D_forgive_17 : decode prog_1_method_30_code 17 = .ok (.bipush (-2), 2) := by decide +kernel
theorem d_D_forgive_19 : decode prog_1_method_30_code 19 = .ok (.invokevirtual 108, 3) := by decide +kernel
theorem d_D_forgive_22 : decode prog_1_method_30_code 22 = .ok (.ireturn, 1) := by decide +kernel
theorem d_D_forgive_23 : decode prog_1_method_30_code 23 = .ok (.aload_n 0, 1) := by decide +kernel
theorem d_D_forgive_24 : decode prog_1_method_30_code 24 = .ok (.getfield 34, 3) := by decide +kernel
theorem d_D_forgive_27 : decode prog_1_method_30_code 27 = .ok (.aload_n 2, 1) := by decide +kernel
theorem d_D_forgive_28 : decode prog_1_method_30_code 28 = .ok (.invokevirtual 263, 3) := by decide +kernel
theorem d_D_forgive_31 : decode prog_1_method_30_code 31 = .ok (.aload_n 2, 1) := by decide +kernel
theorem d_D_forgive_32 : decode prog_1_method_30_code 32 = .ok (.getfield 163, 3) := by decide +kernel
theorem d_D_forgive_35 : decode prog_1_method_30_code 35 = .ok (.iload_n 1, 1) := by decide +kernel
theorem d_D_forgive_36 : decode prog_1_method_30_code 36 = .ok (.iaload, 1) := by decide +kernel
theorem d_D_forgive_37 : decode prog_1_method_30_code 37 = .ok (.istore_n 3, 1) := by decide +kernel
theorem d_D_forgive_38 : decode prog_1_method_30_code 38 = .ok (.aload_n 2, 1) := by decide +kernel
theorem d_D_forgive_39 : decode prog_1_method_30_code 39 = .ok (.getfield 163, 3) := by decide +kernel
theorem d_D_forgive_42 : decode prog_1_method_30_code 42 = .ok (.iload_n 1, 1) := by decide +kernel
theorem d_D_forgive_43 : decode prog_1_method_30_code 43 = .ok (.iconst 0, 1) := by decide +kernel
theorem d_D_forgive_44 : decode prog_1_method_30_code 44 = .ok (.iastore, 1) := by decide +kernel
theorem d_D_forgive_45 : decode prog_1_method_30_code 45 = .ok (.aload_n 2, 1) := by decide +kernel
theorem d_D_forgive_46 : decode prog_1_method_30_code 46 = .ok (.invokevirtual 298, 3) := by decide +kernel
theorem d_D_forgive_49 : decode prog_1_method_30_code 49 = .ok (.aload_n 0, 1) := by decide +kernel
theorem d_D_forgive_50 : decode prog_1_method_30_code 50 = .ok (.iconst 2, 1) := by decide +kernel
theorem d_D_forgive_51 : decode prog_1_method_30_code 51 = .ok (.iload_n 3, 1) := by decide +kernel
theorem d_D_forgive_52 : decode prog_1_method_30_code 52 = .ok (.invokevirtual 295, 3) := by decide +kernel
theorem d_D_forgive_55 : decode prog_1_method_30_code 55 = .ok (.ireturn, 1) := by decide +kernel
def w_D_forgive {d : Nat} (hd : 2 ≤ d) := (show SS ("DebtDoors", prog_1_method_30_code, 4) (some .int) d 0 0 0 0 _ from (sS (p1 := 8) (sRn 2 (rFr fl_D_115 nk_9_0 (rFr fl_D_12 nk_11_0 (rAn 0 d_D_forgive_0 rfl) d_D_forgive_1) d_D_forgive_4) d_D_forgive_7 rfl (by decide)) (sS (p1 := 23) (sIf (pn := 23) (tt := 16) (xC (rNot (rJ1 (tgt := 23) k_ne (rV p_Le_has (Nat.le_trans (Nat.le_of_ble_eq_true rfl) hd) lv_D_156 (rAi (rAr rA0 (rAn 2 d_D_forgive_8 rfl)) (rIn 1 d_D_forgive_9 rfl)) (by decide) d_D_forgive_10) d_D_forgive_13 (by decide)))) (sRi (xV lv_D_108 (xA (rAi (rAr rA0 (rAn 0 d_D_forgive_16 rfl)) (rB d_D_forgive_17 rfl))) (by decide) d_D_forgive_19) d_D_forgive_22 rfl)) (sS (p1 := 31) (sV (xVv lv_D_263 (xA (rAr (rAr rA0 (rFr fl_D_34 nk_11_4 (rAn 0 d_D_forgive_23 rfl) d_D_forgive_24)) (rAn 2 d_D_forgive_27 rfl))) (by decide) d_D_forgive_28)) (sS (p1 := 38) (sIn 3 (xE (rIa (rFr fl_D_163 nk_1_3 (rAn 2 d_D_forgive_31 rfl) d_D_forgive_32) (rIn 1 d_D_forgive_35 rfl) d_D_forgive_36)) d_D_forgive_37 rfl (by decide)) (sS (p1 := 45) (sAs (rFr fl_D_163 nk_1_3 (rAn 2 d_D_forgive_38 rfl) d_D_forgive_39) (rIn 1 d_D_forgive_42 rfl) (xE (rI d_D_forgive_43 rfl)) d_D_forgive_44) (sS (p1 := 49) (sV (xVv lv_D_298 (xA (rAr rA0 (rAn 2 d_D_forgive_45 rfl))) (by decide) d_D_forgive_46)) (sRi (xV lv_D_295 (xA (rAi (rAi (rAr rA0 (rAn 0 d_D_forgive_49 rfl)) (rI d_D_forgive_50 rfl)) (rIn 3 d_D_forgive_51 rfl))) (by decide) d_D_forgive_52) d_D_forgive_55 rfl))))))))
def y_M_forgive : zMt := (⟨"DebtDoorsModel", "forgive", "(I)I"⟩, prog_14_method_99_code, 3, some .int)
theorem d_M_forgive_0 : decode prog_14_method_99_code 0 = .ok (.aload_n 0, 1) := by decide +kernel
theorem d_M_forgive_1 : decode prog_14_method_99_code 1 = .ok (.iload_n 1, 1) := by decide +kernel
theorem d_M_forgive_2 : decode prog_14_method_99_code 2 = .ok (.invokevirtual 169, 3) := by decide +kernel
theorem d_M_forgive_5 : decode prog_14_method_99_code 5 = .ok (.ifCond .ne 10, 3) := by decide +kernel
theorem d_M_forgive_8 : decode prog_14_method_99_code 8 = .ok (.aload_n 0, 1) := by decide +kernel
theorem d_M_forgive_9 : decode prog_14_method_99_code 9 = .ok (.bipush (-2), 2) := by decide +kernel
theorem d_M_forgive_11 : decode prog_14_method_99_code 11 = .ok (.invokevirtual 127, 3) := by decide +kernel
theorem d_M_forgive_14 : decode prog_14_method_99_code 14 = .ok (.ireturn, 1) := by decide +kernel
theorem d_M_forgive_15 : decode prog_14_method_99_code 15 = .ok (.aload_n 0, 1) := by decide +kernel
theorem d_M_forgive_16 : decode prog_14_method_99_code 16 = .ok (.getfield 24, 3) := by decide +kernel
theorem d_M_forgive_19 : decode prog_14_method_99_code 19 = .ok (.bipush 7, 2) := by decide +kernel
theorem d_M_forgive_21 : decode prog_14_method_99_code 21 = .ok (.iconst 4, 1) := by decide +kernel
theorem d_M_forgive_22 : decode prog_14_method_99_code 22 = .ok (.iload_n 1, 1) := by decide +kernel
theorem d_M_forgive_23 : decode prog_14_method_99_code 23 = .ok (.imul, 1) := by decide +kernel
theorem d_M_forgive_24 : decode prog_14_method_99_code 24 = .ok (.iadd, 1) := by decide +kernel
theorem d_M_forgive_25 : decode prog_14_method_99_code 25 = .ok (.iconst 2, 1) := by decide +kernel
theorem d_M_forgive_26 : decode prog_14_method_99_code 26 = .ok (.iadd, 1) := by decide +kernel
theorem d_M_forgive_27 : decode prog_14_method_99_code 27 = .ok (.iaload, 1) := by decide +kernel
theorem d_M_forgive_28 : decode prog_14_method_99_code 28 = .ok (.istore_n 2, 1) := by decide +kernel
theorem d_M_forgive_29 : decode prog_14_method_99_code 29 = .ok (.aload_n 0, 1) := by decide +kernel
theorem d_M_forgive_30 : decode prog_14_method_99_code 30 = .ok (.iconst 2, 1) := by decide +kernel
theorem d_M_forgive_31 : decode prog_14_method_99_code 31 = .ok (.invokevirtual 357, 3) := by decide +kernel
theorem d_M_forgive_34 : decode prog_14_method_99_code 34 = .ok (.aload_n 0, 1) := by decide +kernel
theorem d_M_forgive_35 : decode prog_14_method_99_code 35 = .ok (.iload_n 1, 1) := by decide +kernel
theorem d_M_forgive_36 : decode prog_14_method_99_code 36 = .ok (.invokevirtual 363, 3) := by decide +kernel
theorem d_M_forgive_39 : decode prog_14_method_99_code 39 = .ok (.aload_n 0, 1) := by decide +kernel
theorem d_M_forgive_40 : decode prog_14_method_99_code 40 = .ok (.iload_n 2, 1) := by decide +kernel
theorem d_M_forgive_41 : decode prog_14_method_99_code 41 = .ok (.invokevirtual 14, 3) := by decide +kernel
theorem d_M_forgive_44 : decode prog_14_method_99_code 44 = .ok (.ireturn, 1) := by decide +kernel
def w_M_forgive {d : Nat} (hd : 3 ≤ d) := (show SS ("DebtDoorsModel", prog_14_method_99_code, 3) (some .int) d 0 0 0 0 _ from (sS (p1 := 15) (sIf (pn := 15) (tt := 8) (xC (rNot (rJ1 (tgt := 15) k_ne (rV p_M_isDebt (Nat.le_trans (Nat.le_of_ble_eq_true rfl) hd) lv_M_169 (rAi (rAr rA0 (rAn 0 d_M_forgive_0 rfl)) (rIn 1 d_M_forgive_1 rfl)) (by decide) d_M_forgive_2) d_M_forgive_5 (by decide)))) (sRi (xV lv_M_127 (xA (rAi (rAr rA0 (rAn 0 d_M_forgive_8 rfl)) (rB d_M_forgive_9 rfl))) (by decide) d_M_forgive_11) d_M_forgive_14 rfl)) (sS (p1 := 29) (sIn 2 (xE (rIa (rFr fl_M_24 nk_12_2 (rAn 0 d_M_forgive_15 rfl) d_M_forgive_16) (r2 o_add (r2 o_add (rB d_M_forgive_19 rfl) (r2 o_mul (rI d_M_forgive_21 rfl) (rIn 1 d_M_forgive_22 rfl) d_M_forgive_23) d_M_forgive_24) (rI d_M_forgive_25 rfl) d_M_forgive_26) d_M_forgive_27)) d_M_forgive_28 rfl (by decide)) (sS (p1 := 34) (sV (xVv lv_M_357 (xA (rAi (rAr rA0 (rAn 0 d_M_forgive_29 rfl)) (rI d_M_forgive_30 rfl))) (by decide) d_M_forgive_31)) (sS (p1 := 39) (sV (xVv lv_M_363 (xA (rAi (rAr rA0 (rAn 0 d_M_forgive_34 rfl)) (rIn 1 d_M_forgive_35 rfl))) (by decide) d_M_forgive_36)) (sRi (xV lv_M_14 (xA (rAi (rAr rA0 (rAn 0 d_M_forgive_39 rfl)) (rIn 2 d_M_forgive_40 rfl))) (by decide) d_M_forgive_41) d_M_forgive_44 rfl))))))
theorem LC_forgive {k0 : Int} : LC y_D_forgive y_M_forgive [vi k0] := LC.de (fun k μ Z F A w h0 h1 hJ hC hM => by
  obtain ⟨n1, n2, n3, n4, n5, n6, n7⟩ := hC.n
  have hr := hJ.rD h0 h1
  refine ⟨zit (0 ≤ k0 ∧ k0 < (A.2.1.length : Int)) 0 (-2), 2, (dbt A k0).2.2.1, fgA A k0, ⟨by unfold zit; split <;> omega, by decide, by decide⟩, fun hc => fgA_ok hC.2.1, ?_, ?_⟩
  · refine zCw.use (zSp.ss [vr 0, vi k0, vx 0, vx 0] rfl (w_D_forgive (d := 100) (by decide)) rfl rfl ?_) (by decide) (fun q μ' e => e)
    (try simp only [zit_e, Bool.and_eq_true, Bool.or_eq_true, Bool.not_eq_true', Bool.and_eq_false_iff, Bool.or_eq_false_iff, Bool.not_eq_false', zbe, zdt, zdf, zb2_p, zbp_0, zbp_1, zbp_inj, zbp_01, Bool.true_eq_false, Bool.false_eq_true, true_and, and_true, Decidable.not_not, Classical.not_not, implies_true, List.nil_append, List.cons_append, List.append_assoc, Option.some.injEq, Sum.inl.injEq, zSw_c, zSw_n]); (try simp only [zit_e, Bool.and_eq_true, Bool.or_eq_true, Bool.not_eq_true', Bool.and_eq_false_iff, Bool.or_eq_false_iff, Bool.not_eq_false', zbe, zdt, zdf, zb2_p, zbp_0, zbp_1, zbp_inj, zbp_01, Bool.true_eq_false, Bool.false_eq_true, true_and, and_true, Decidable.not_not, Classical.not_not, implies_true, List.nil_append, List.cons_append, List.append_assoc, Option.some.injEq, Sum.inl.injEq, zSw_c, zSw_n, zc_0, zc_1, zc_2, zc_111, f_Le_has, g_Le_has]); (try simp only [zi_cs, zi_c0, zii_cs, zii_c0, zl_cs, zl_c0, zll_cs, zll_c0, zr_cs, zr_c0, zrr_cs, zrr_c0, zxs_cs, zxs_c0, zxx_cs, zxx_c0, zfree_c0, zfree_c1, zfree_cs, zfree_cz, zlong_i, zlong_r, zlong_x, zset_0, zset_s, true_and, and_true, Option.some.injEq, Sum.inl.injEq, Sum.inr.injEq, zb2_p, zbp_0, zbp_1, zbp_inj, zbp_01, Nat.zero_add, Nat.reduceAdd, implies_true, List.nil_append, List.cons_append, List.append_assoc, Int.not_lt, Int.not_le, Decidable.not_not, Int.zero_add, Int.reduceLE, Int.reduceLT, Int.reduceEq, Int.reduceNe, Int.reduceAdd, Int.reduceSub, Int.reduceMul, Int.reduceNeg, Int.reduceToNat, Nat.reduceMul, Nat.reduceLT, Nat.reduceEqDiff, and_self, ite_true, ite_false, zx1, zx2, zRecv, List.length_cons, List.length_nil, ne_eq, not_true_eq_false, not_false_eq_true, true_or, or_true, or_false, false_or, and_false, false_and, zf01, zf10, reduceCtorEq, zSw_c, zSw_n, zm_r, zit_T, zit_F, false_implies, true_implies, zc_0, zc_1, zc_2, zc_111, f_Le_has, g_Le_has])
    rw [n6]
    refine zif (fun c => rfD_w (by omega) (by omega) hr ⟨_, rfl, OD.no (zit_f c) (by decide) PJc.rf⟩) (fun c => ?_)
    have c := Classical.not_not.mp c
    obtain ⟨d1, d2⟩ := hC.e c.1 c.2
    rw [zit_t c]
    have dk : μ 6 k0 = (dbt A k0).2.2.1 := congrArg (fun x => x.2.2.1) d1
    refine hoC_w (by omega) hJ.2.1.so n5 (fun X hX hk2 => ?_)
    have k2 := hk2 2 (Or.inl (by decide))
    have k6 := hk2 6 (Or.inl (by decide))
    refine ⟨rfl, by omega, by omega, by omega, ?_⟩
    refine zCw.use (q_Le_dropPaid (d := 1) (by decide) (by rw [zm_off 2 (by decide), k2]; exact n5)) (by decide) (fun q X2 e => ?_)
    obtain ⟨rfl, e1, e2, e3, e4⟩ := e
    rw [dbD_am c.1 (by rw [k2, n6]; exact c.2), dbD_c (fun c hc => hk2 c (by omega)) (by rw [k2]), n3, dpL_set0 hC.2.1.2.1.2 (by omega) rfl] at e1
    rw [zm_off 2 (by decide), k2] at e2 e3
    have hf : zfc [2, 4, 5, 6, 7] X X2 := ((zfc.rf (cs := [6])).zm (by decide) |>.tr e4).mo (by simp)
    refine ⟨rfl, ?_⟩
    rw [k6, dk]
    have hp := d2.2.2.2.1
    refine seD_w (a := μ) (by omega) (by omega) (by rw [hf 354 (by decide), hk2 354 (Or.inr (by decide))]; exact hr) (hX.kt (hf.kt (by simp))) (fun q => absurd q (by omega)) (fun _ Y hY hz => ⟨_, rfl, OD.yes (by decide) ?_ ⟨rfl, Y, hY, ?_, ?_, rfl⟩⟩)
    · exact fun i hi => by rw [zm_off _ (by omega), hz i (by simp only [List.mem_cons, List.not_mem_nil, or_false]; omega), hf i (by simp only [List.mem_cons, List.not_mem_nil, or_false]; omega), hk2 i (Or.inr (by omega))]
    · rw [hz 2 (by decide)]
      refine ⟨lgO_is ?_ ?_ ?_, e2.1⟩
      · rw [hz 3 (by decide), hf 3 (by decide), hk2 3 (by decide)]
        exact n7
      · rw [dbD_c (fun c hc => hz c (by simp only [List.mem_cons, List.not_mem_nil, or_false]; omega)) (by rw [hz 2 (by decide)]), e1]
        rfl
      · rw [hz 2 (by decide), e3, n4]
        rfl
    · exact fun c hc => by rw [hz c (by simp only [List.mem_cons, List.not_mem_nil, or_false]; omega), hf c (by simp only [List.mem_cons, List.not_mem_nil, or_false]; omega), hk2 c (by omega)]
  · intro μ1 hm
    have hM := hM.k (hm 357 (by decide))
    obtain ⟨n1, n2, n3, n4, n5, n6, n7⟩ := hM.n
    have hr := hJ.rM h0 h1 hm
    have hu : 0 ≤ μ1 355 28 ∧ μ1 355 28 ≤ 16 := by
      rw [hm 355 (by decide), hJ.2.1.2.1]
      exact hJ.2.1.1.2
    refine zCw.use (zSp.ss [vr 355, vi k0, vx 0] rfl (w_M_forgive (d := 100) (by decide)) rfl rfl ?_) (by decide) (fun q μ' e => e)
    (try simp only [zit_e, Bool.and_eq_true, Bool.or_eq_true, Bool.not_eq_true', Bool.and_eq_false_iff, Bool.or_eq_false_iff, Bool.not_eq_false', zbe, zdt, zdf, zb2_p, zbp_0, zbp_1, zbp_inj, zbp_01, Bool.true_eq_false, Bool.false_eq_true, true_and, and_true, Decidable.not_not, Classical.not_not, implies_true, List.nil_append, List.cons_append, List.append_assoc, Option.some.injEq, Sum.inl.injEq, zSw_c, zSw_n]); (try simp only [zit_e, Bool.and_eq_true, Bool.or_eq_true, Bool.not_eq_true', Bool.and_eq_false_iff, Bool.or_eq_false_iff, Bool.not_eq_false', zbe, zdt, zdf, zb2_p, zbp_0, zbp_1, zbp_inj, zbp_01, Bool.true_eq_false, Bool.false_eq_true, true_and, and_true, Decidable.not_not, Classical.not_not, implies_true, List.nil_append, List.cons_append, List.append_assoc, Option.some.injEq, Sum.inl.injEq, zSw_c, zSw_n, zc_355, f_M_isDebt, g_M_isDebt]); (try simp only [zi_cs, zi_c0, zii_cs, zii_c0, zl_cs, zl_c0, zll_cs, zll_c0, zr_cs, zr_c0, zrr_cs, zrr_c0, zxs_cs, zxs_c0, zxx_cs, zxx_c0, zfree_c0, zfree_c1, zfree_cs, zfree_cz, zlong_i, zlong_r, zlong_x, zset_0, zset_s, true_and, and_true, Option.some.injEq, Sum.inl.injEq, Sum.inr.injEq, zb2_p, zbp_0, zbp_1, zbp_inj, zbp_01, Nat.zero_add, Nat.reduceAdd, implies_true, List.nil_append, List.cons_append, List.append_assoc, Int.not_lt, Int.not_le, Decidable.not_not, Int.zero_add, Int.reduceLE, Int.reduceLT, Int.reduceEq, Int.reduceNe, Int.reduceAdd, Int.reduceSub, Int.reduceMul, Int.reduceNeg, Int.reduceToNat, Nat.reduceMul, Nat.reduceLT, Nat.reduceEqDiff, and_self, ite_true, ite_false, zx1, zx2, zRecv, List.length_cons, List.length_nil, ne_eq, not_true_eq_false, not_false_eq_true, true_or, or_true, or_false, false_or, and_false, false_and, zf01, zf10, reduceCtorEq, zSw_c, zSw_n, zm_r, zit_T, zit_F, false_implies, true_implies, zc_355, f_M_isDebt, g_M_isDebt])
    refine ⟨n5, ?_⟩
    rw [n6]
    refine zif (fun c => ?_) (fun c => ?_)
    · rw [zit_f (by omega)]
      exact rfM_w (by omega) (by omega) hr ⟨_, rfl, OM.no rfl (by decide) PJm.rf⟩
    have c : 0 ≤ k0 ∧ k0 < (A.2.1.length : Int) := by omega
    obtain ⟨d1, d2⟩ := hM.e c.1 c.2
    rw [zit_t c]
    have dk : μ1 357 (7 + 4 * k0 + 2) = (dbt A k0).2.2.1 := congrArg (fun x => x.2.2.1) d1
    refine ⟨⟨⟨⟨by ((try simp only [zI_e]); (first | done | omega | skip)), by ((try simp only [zI_e]); (first | done | omega | skip))⟩, by ((try simp only [zI_e]); (first | done | omega | skip))⟩, by omega, by omega⟩, ?_⟩
    refine zCw.use (q_M_keeps (d := 1) (by decide) hu) (by omega) (fun q X e => ?_)
    obtain ⟨rfl, e1, e2, e3, e4⟩ := e
    have k7 := e4 357 (by decide)
    refine ⟨rfl, ?_⟩
    refine zCw.use (q_M_removes (d := 2) (by decide) (by rw [k7]; omega) (by rw [k7]; omega)) (by omega) (fun q X2 e => ?_)
    obtain ⟨rfl, f1, f2, f3, f4⟩ := e
    have hdb : dbM X = dbM μ1 := by unfold dbM fM; rw [k7]
    rw [k7] at f2 f3
    rw [hdb, n3] at f1
    refine ⟨rfl, ?_⟩
    rw [dk]
    refine zCw.use (q_M_good (d := 1) (by decide)) (by decide) (fun q Y e => ?_)
    obtain ⟨rfl, rfl⟩ := e
    have h5 := f4 355 (by decide)
    have hf : zfc [355, 357, 369] μ1 X2 := (e4.tr f4).mo (by simp)
    refine ⟨_, rfl, OM.yes (by decide) ?_ ⟨rfl, X2, ⟨by rw [h5]; exact e2, ?_, fun c _ _ _ _ => hf c (by simp only [List.mem_cons, List.not_mem_nil, or_false]; omega), fun j _ hj => by rw [h5]; exact e3 j hj⟩, ⟨lgM_is ?_ ?_ ?_, by omega⟩, fun i hi => ?_, rfl⟩⟩
    · exact (hf.hc (by simp)).sm (by omega)
    · rw [← e1]
      unfold unM rwM
      rw [h5, f4 369 (by decide)]
    · refine Eq.trans ?_ n7
      exact tL_congr (fun i a b => by rw [f3 i (by omega)])
    · rw [f1]
      rfl
    · rw [f3 72 (by decide), n4]
      rfl
    · rw [f3 i (by omega)])

