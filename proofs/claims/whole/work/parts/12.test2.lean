def f_Le_has : List zV → zMem → Int
  | [.inr (.inr (.inl L)), .inl i], μ => zb2 (decide (0 ≤ i ∧ i < μ L 5))
  | _, _ => 0
def g_Le_has : List zV → zMem → Prop
  | [.inr (.inr (.inl L)), .inl _], _ => zO 1 L = true
  | _, _ => False
theorem p_Le_has : zPu y_Le_has 1 f_Le_has g_Le_has := by
  intro as μ h
  unfold g_Le_has at h
  split at h
  · next L i =>
    refine zSp.ss [vr L, vi i] rfl (w_Le_has (Nat.le_refl _)) rfl rfl ?_
    simp only [zi_cs, zi_c0, zii_cs, zii_c0, zl_cs, zl_c0, zll_cs, zll_c0, zr_cs, zr_c0, zrr_cs, zrr_c0, zxs_cs, zxs_c0, zxx_cs, zxx_c0, zfree_c0, zfree_c1, zfree_cs, zlong_i, zlong_r, zlong_x, zset_0, zset_s, true_and, and_true, Bool.and_eq_true, Bool.or_eq_true, Bool.not_eq_true', decide_eq_true_eq, decide_eq_false_iff_not, Option.some.injEq, Sum.inl.injEq, Sum.inr.injEq, zb2_0, zb2_1, zb2_inj, zb2_01, f_Le_has]
    trace_state
    sorry
  · exact h.elim
theorem d_Le_lessen_0 : decode prog_3_method_7_code 0 = .ok (.iload_n 3, 1) := by decide +kernel
theorem d_Le_lessen_1 : decode prog_3_method_7_code 1 = .ok (.istore 4, 2) := by decide +kernel
theorem d_Le_lessen_3 : decode prog_3_method_7_code 3 = .ok (.iconst 0, 1) := by decide +kernel
theorem d_Le_lessen_4 : decode prog_3_method_7_code 4 = .ok (.istore 5, 2) := by decide +kernel
theorem d_Le_lessen_6 : decode prog_3_method_7_code 6 = .ok (.iload 5, 2) := by decide +kernel
theorem d_Le_lessen_8 : decode prog_3_method_7_code 8 = .ok (.aload_n 0, 1) := by decide +kernel
theorem d_Le_lessen_9 : decode prog_3_method_7_code 9 = .ok (.getfield 33, 3) := by decide +kernel
theorem d_Le_lessen_12 : decode prog_3_method_7_code 12 = .ok (.if_icmp .ge 64, 3) := by decide +kernel
theorem d_Le_lessen_15 : decode prog_3_method_7_code 15 = .ok (.aload_n 0, 1) := by decide +kernel
theorem d_Le_lessen_16 : decode prog_3_method_7_code 16 = .ok (.getfield 15, 3) := by decide +kernel
theorem d_Le_lessen_19 : decode prog_3_method_7_code 19 = .ok (.iload 5, 2) := by decide +kernel
theorem d_Le_lessen_21 : decode prog_3_method_7_code 21 = .ok (.iaload, 1) := by decide +kernel
theorem d_Le_lessen_22 : decode prog_3_method_7_code 22 = .ok (.iload_n 1, 1) := by decide +kernel
theorem d_Le_lessen_23 : decode prog_3_method_7_code 23 = .ok (.if_icmp .ne 47, 3) := by decide +kernel
theorem d_Le_lessen_26 : decode prog_3_method_7_code 26 = .ok (.aload_n 0, 1) := by decide +kernel
theorem d_Le_lessen_27 : decode prog_3_method_7_code 27 = .ok (.getfield 18, 3) := by decide +kernel
theorem d_Le_lessen_30 : decode prog_3_method_7_code 30 = .ok (.iload 5, 2) := by decide +kernel
theorem d_Le_lessen_32 : decode prog_3_method_7_code 32 = .ok (.iaload, 1) := by decide +kernel
theorem d_Le_lessen_33 : decode prog_3_method_7_code 33 = .ok (.iload_n 2, 1) := by decide +kernel
theorem d_Le_lessen_34 : decode prog_3_method_7_code 34 = .ok (.if_icmp .ne 36, 3) := by decide +kernel
theorem d_Le_lessen_37 : decode prog_3_method_7_code 37 = .ok (.iload 4, 2) := by decide +kernel
theorem d_Le_lessen_39 : decode prog_3_method_7_code 39 = .ok (.aload_n 0, 1) := by decide +kernel
theorem d_Le_lessen_40 : decode prog_3_method_7_code 40 = .ok (.getfield 21, 3) := by decide +kernel
theorem d_Le_lessen_43 : decode prog_3_method_7_code 43 = .ok (.iload 5, 2) := by decide +kernel
theorem d_Le_lessen_45 : decode prog_3_method_7_code 45 = .ok (.iaload, 1) := by decide +kernel
theorem d_Le_lessen_46 : decode prog_3_method_7_code 46 = .ok (.invokestatic 40, 3) := by decide +kernel
theorem d_Le_lessen_49 : decode prog_3_method_7_code 49 = .ok (.istore 6, 2) := by decide +kernel
theorem d_Le_lessen_51 : decode prog_3_method_7_code 51 = .ok (.aload_n 0, 1) := by decide +kernel
theorem d_Le_lessen_52 : decode prog_3_method_7_code 52 = .ok (.getfield 21, 3) := by decide +kernel
theorem d_Le_lessen_55 : decode prog_3_method_7_code 55 = .ok (.iload 5, 2) := by decide +kernel
theorem d_Le_lessen_57 : decode prog_3_method_7_code 57 = .ok (.dup2, 1) := by decide +kernel
theorem d_Le_lessen_58 : decode prog_3_method_7_code 58 = .ok (.iaload, 1) := by decide +kernel
theorem d_Le_lessen_59 : decode prog_3_method_7_code 59 = .ok (.iload 6, 2) := by decide +kernel
theorem d_Le_lessen_61 : decode prog_3_method_7_code 61 = .ok (.isub, 1) := by decide +kernel
theorem d_Le_lessen_62 : decode prog_3_method_7_code 62 = .ok (.iastore, 1) := by decide +kernel
theorem d_Le_lessen_63 : decode prog_3_method_7_code 63 = .ok (.iload 4, 2) := by decide +kernel
theorem d_Le_lessen_65 : decode prog_3_method_7_code 65 = .ok (.iload 6, 2) := by decide +kernel
theorem d_Le_lessen_67 : decode prog_3_method_7_code 67 = .ok (.isub, 1) := by decide +kernel
theorem d_Le_lessen_68 : decode prog_3_method_7_code 68 = .ok (.istore 4, 2) := by decide +kernel
theorem d_Le_lessen_70 : decode prog_3_method_7_code 70 = .ok (.iinc 5 1, 3) := by decide +kernel
theorem d_Le_lessen_73 : decode prog_3_method_7_code 73 = .ok (.goto (-67), 3) := by decide +kernel
theorem d_Le_lessen_76 : decode prog_3_method_7_code 76 = .ok (.aload_n 0, 1) := by decide +kernel
theorem d_Le_lessen_77 : decode prog_3_method_7_code 77 = .ok (.invokevirtual 46, 3) := by decide +kernel
theorem d_Le_lessen_80 : decode prog_3_method_7_code 80 = .ok (.return_, 1) := by decide +kernel
def w_Le_lessen {d : Nat} (hd : 3 ≤ d) := (show SS ("DebtDoors$Ledger", prog_3_method_7_code, 7) (none) d 0 0 0 0 _ from (sS (p1 := 3) (sI (xE (rIn 3 d_Le_lessen_0 rfl)) d_Le_lessen_1 (by decide)) (sS (p1 := 76) (sS (p1 := 6) (sI (xE (rI d_Le_lessen_3 rfl)) d_Le_lessen_4 (by decide)) (sLp (ps := 70) (tt := 15) (pn := 76) (p1 := 0) (p2 := 0) (xC (rNot (rJ2 (tgt := 76) j_ge (rIl d_Le_lessen_6) (rF 5 fl_Le_33 nk_1_5 (rAn 0 d_Le_lessen_8 rfl) d_Le_lessen_9 rfl) d_Le_lessen_12 (by decide)))) (sIf (pn := 70) (tt := 37) (xC (rAnd (mm := 26) (rNot (rJ2 (tgt := 70) j_ne (rIa (rFr fl_Le_15 nk_1_1 (rAn 0 d_Le_lessen_15 rfl) d_Le_lessen_16) (rIl d_Le_lessen_19) d_Le_lessen_21) (rIn 1 d_Le_lessen_22 rfl) d_Le_lessen_23 (by decide))) (rNot (rJ2 (tgt := 70) j_ne (rIa (rFr fl_Le_18 nk_1_2 (rAn 0 d_Le_lessen_26 rfl) d_Le_lessen_27) (rIl d_Le_lessen_30) d_Le_lessen_32) (rIn 2 d_Le_lessen_33 rfl) d_Le_lessen_34 (by decide))))) (sS (p1 := 51) (sI (xE (rMin km_Le_40 (rIl d_Le_lessen_37) (rIa (rFr fl_Le_21 nk_1_3 (rAn 0 d_Le_lessen_39 rfl) d_Le_lessen_40) (rIl d_Le_lessen_43) d_Le_lessen_45) (by decide) (Nat.le_trans (Nat.le_of_ble_eq_true rfl) hd) d_Le_lessen_46)) d_Le_lessen_49 (by decide)) (sS (p1 := 63) (sAo o_sub (rFr fl_Le_21 nk_1_3 (rAn 0 d_Le_lessen_51 rfl) d_Le_lessen_52) (rIl d_Le_lessen_55) d_Le_lessen_57 d_Le_lessen_58 (rIl d_Le_lessen_59) d_Le_lessen_61 d_Le_lessen_62) (sI (xE (r2 o_sub (rIl d_Le_lessen_63) (rIl d_Le_lessen_65) d_Le_lessen_67)) d_Le_lessen_68 (by decide))))) (sGo (pn := 6) (sInc d_Le_lessen_70 (by decide)) d_Le_lessen_73 (by decide)))) (sS (p1 := 80) (sV (xVv lv_Le_46 (xA (rAr rA0 (rAn 0 d_Le_lessen_76 rfl))) (by decide) d_Le_lessen_77)) (sRv d_Le_lessen_80 rfl)))))
theorem xx (L : Nat) (a b m : Int) (μ : zMem) (h : zO 1 L = true) : zSp 10 0 0 y_Le_lessen zT0 [vr L, vi a, vi b, vi m] μ zT0 (fun q μ' => q = none) := by
    refine zSp.ss [vr L, vi a, vi b, vi m, vx 0, vx 0, vx 0] rfl (w_Le_lessen (by decide)) rfl rfl ?_
    simp only [zi_cs, zi_c0, zii_cs, zii_c0, zl_cs, zl_c0, zll_cs, zll_c0, zr_cs, zr_c0, zrr_cs, zrr_c0, zxs_cs, zxs_c0, zxx_cs, zxx_c0, zfree_c0, zfree_c1, zfree_cs, zlong_i, zlong_r, zlong_x, zset_0, zset_s, true_and, and_true, Bool.and_eq_true, Bool.or_eq_true, Bool.not_eq_true', decide_eq_true_eq, decide_eq_false_iff_not, Option.some.injEq, Sum.inl.injEq, Sum.inr.injEq, zb2_0, zb2_1, zb2_inj, zb2_01, f_Le_has]
    trace_state
    sorry
