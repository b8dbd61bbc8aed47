/-! undo -/
theorem unD_last {a : zMem} {U : Nat} (h : 1 ≤ a U 3) : (unD a U)[(a U 3).toNat - 1]? = some (lgO a (slC U (slI a U (a U 3 - 1))), a (U + 2) (slI a U (a U 3 - 1))) := by
  unfold unD
  rw [tL_get (by omega), show (((a U 3).toNat - 1 : Nat) : Int) = a U 3 - 1 by omega]
theorem unM_last {b : zMem} (h : 1 ≤ b 355 28) : (unM b)[(b 355 28).toNat - 1]? = some (rwM b 369 (b 355 28 - 1)) := by
  unfold unM
  rw [tL_get (by omega), show (((b 355 28).toNat - 1 : Nat) : Int) = b 355 28 - 1 by omega]
theorem UR.dr {D : List (Lg × Int)} {M : List (List Int)} (h : UR D M) : UR D.dropLast M.dropLast := by
  obtain ⟨h1, h2⟩ := h
  refine ⟨by rw [List.length_dropLast, List.length_dropLast, h1], fun i x r hx hr => ?_⟩
  rw [List.getElem?_dropLast] at hx hr
  split at hx
  · split at hr
    · exact h2 i x r hx hr
    · cases hr
  · cases hx
theorem unM_dr {b Y : zMem} (h : 1 ≤ b 355 28) (h1 : Y 355 28 = b 355 28 - 1) (h2 : Y 369 = b 369) : unM Y = (unM b).dropLast := by
  unfold unM
  rw [h1, show (b 355 28).toNat = (b 355 28 - 1).toNat + 1 by omega, tL_succ, List.dropLast_concat]
  refine tL_congr (fun i _ _ => ?_)
  unfold rwM
  rw [h2]
theorem q_Un_takeBack2 {d : Nat} (hd : 5 ≤ d) {μ : zMem} (hu : (0 ≤ μ 111 2 ∧ μ 111 2 < 17) ∧ 1 ≤ μ 111 3 ∧ μ 111 3 ≤ 16) (hl : 0 ≤ μ (slC 111 (slI μ 111 (μ 111 3 - 1))) 5 ∧ μ (slC 111 (slI μ 111 (μ 111 3 - 1))) 5 ≤ 16) : zSp d 0 0 y_Un_takeBack zT0 [vr 111, vr 2] μ zT0 (fun r μ' => r = some (vi (μ 113 (slI μ 111 (μ 111 3 - 1)))) ∧ lgO μ' 2 = lgO μ (slC 111 (slI μ 111 (μ 111 3 - 1))) ∧ unD μ' 111 = (unD μ 111).dropLast ∧ μ' 111 = zm μ 111 3 (μ 111 3 - 1) 111 ∧ zfc [111, 2, 3, 4, 5, 6, 7] μ μ' ∧ μ' 2 5 = μ (slC 111 (slI μ 111 (μ 111 3 - 1))) 5) := by
  have hs := slI_in (μ := μ) (U := 111) (i := μ 111 3 - 1)
  have hz := zun hs.1 hs.2
  refine zSp.ss [vr 111, vr 2] rfl (w_Un_takeBack (Nat.le_trans (by decide) hd)) rfl rfl ?_
  (try simp only [zit_e, Bool.and_eq_true, Bool.or_eq_true, Bool.not_eq_true', Bool.and_eq_false_iff, Bool.or_eq_false_iff, Bool.not_eq_false', zbe, zdt, zdf, zb2_p, zbp_0, zbp_1, zbp_inj, zbp_01, Bool.true_eq_false, Bool.false_eq_true, true_and, and_true, Decidable.not_not, Classical.not_not, implies_true, List.nil_append, List.cons_append, List.append_assoc, Option.some.injEq, Sum.inl.injEq, zSw_c, zSw_n]); (try simp only [zit_e, Bool.and_eq_true, Bool.or_eq_true, Bool.not_eq_true', Bool.and_eq_false_iff, Bool.or_eq_false_iff, Bool.not_eq_false', zbe, zdt, zdf, zb2_p, zbp_0, zbp_1, zbp_inj, zbp_01, Bool.true_eq_false, Bool.false_eq_true, true_and, and_true, Decidable.not_not, Classical.not_not, implies_true, List.nil_append, List.cons_append, List.append_assoc, Option.some.injEq, Sum.inl.injEq, zSw_c, zSw_n, zc_111, zc_2, f_Un_slot, g_Un_slot]); (try simp only [zi_cs, zi_c0, zii_cs, zii_c0, zl_cs, zl_c0, zll_cs, zll_c0, zr_cs, zr_c0, zrr_cs, zrr_c0, zxs_cs, zxs_c0, zxx_cs, zxx_c0, zfree_c0, zfree_c1, zfree_cs, zfree_cz, zlong_i, zlong_r, zlong_x, zset_0, zset_s, true_and, and_true, Option.some.injEq, Sum.inl.injEq, Sum.inr.injEq, zb2_p, zbp_0, zbp_1, zbp_inj, zbp_01, Nat.zero_add, Nat.reduceAdd, implies_true, List.nil_append, List.cons_append, List.append_assoc, Int.not_lt, Int.not_le, Decidable.not_not, Int.zero_add, Int.reduceLE, Int.reduceLT, Int.reduceEq, Int.reduceNe, Int.reduceAdd, Int.reduceSub, Int.reduceMul, Int.reduceNeg, Int.reduceToNat, Nat.reduceMul, Nat.reduceLT, Nat.reduceEqDiff, and_self, ite_true, ite_false, zx1, zx2, zRecv, List.length_cons, List.length_nil, ne_eq, not_true_eq_false, not_false_eq_true, true_or, or_true, or_false, false_or, and_false, false_and, zf01, zf10, reduceCtorEq, zSw_c, zSw_n, zm_r, zit_T, zit_F, false_implies, true_implies, zc_111, zc_2, f_Un_slot, g_Un_slot])
  rw [if_neg (by omega)]
  rw [slI_tm (by omega), hz.1]
  have e2 : zm μ 111 3 (μ 111 3 - 1) 111 2 = μ 111 2 := by rw [zm_r, zit_t rfl, zit_f (by omega)]
  have e3 : zm μ 111 3 (μ 111 3 - 1) 111 3 = μ 111 3 - 1 := zm_s
  have eo : ∀ k, k ≠ 111 → zm μ 111 3 (μ 111 3 - 1) k = μ k := fun k hk => zm_off k hk
  have hne : slC 111 (slI μ 111 (μ 111 3 - 1)) ≠ 111 := by unfold slC; omega
  refine ⟨by ((try simp only [zI_e]); (first | done | omega | skip)), ⟨by omega, by omega, hs⟩, ?_⟩
  refine zCw.use (q_Le_copyFrom (d := 4) (by decide) zc_2.1.1 hz.2.1 (by unfold slC; omega)) (by omega) (fun q μ2 e => ?_)
  obtain ⟨b0, b1, b2, b3, b4, b5⟩ := e
  have k111 : μ2 111 = zm μ 111 3 (μ 111 3 - 1) 111 := b5 111 (by decide)
  have k113 : μ2 113 = μ 113 := (b5 113 (by decide)).trans (eo 113 (by decide))
  have kf : zfc [111, 2, 3, 4, 5, 6, 7] μ μ2 := ((zfc.rf (cs := [111])).zm (by decide) |>.tr b5).mo (by simp)
  have hlg : lgO μ2 2 = lgO μ (slC 111 (slI μ 111 (μ 111 3 - 1))) := by
    rw [lgO_cp (by rw [eo _ hne]; exact hl) b1 b2 b3 b4]
    exact lgO_c (fun c _ => eo _ (by unfold slC; omega))
  have hsl : ∀ j : Int, slI μ2 111 j = slI μ 111 j := fun j => by unfold slI; rw [k111, e2]
  rw [k111, e2, e3, slI_tm (by omega), k113]
  refine ⟨b0, ⟨by omega, hs⟩, rfl, hlg, ?_, rfl, kf, by rw [b3, eo _ hne]⟩
  have hn : (μ 111 3).toNat = (μ 111 3 - 1).toNat + 1 := by omega
  unfold unD
  rw [k111, e3, hn, tL_succ, List.dropLast_concat]
  refine tL_congr (fun i a b => ?_)
  have k113' : μ2 (111 + 2) = μ (111 + 2) := k113
  rw [hsl, k113']
  congr 1
  refine lgO_c (fun c hc => kf _ ?_)
  have := slI_in (μ := μ) (U := 111) (i := i)
  unfold slC
  simp only [List.mem_cons, List.not_mem_nil, or_false]
  omega
theorem JJ.un {k : Int} {a a' b b' : zMem} (h : JJ k a b) (hT : TJ a' (b' 357)) (c1 : SlO a') (hU : UR (unD a' 111) (unM b')) (f : ∀ c : Nat, 36 ≤ c → c < 355 → ¬ scC c → c ≠ 321 → c ≠ 351 → c ≠ 326 → ¬ (111 ≤ c ∧ c < 216) → a' c = a c) (c4 : ∀ j : Int, 15 ≤ j → j ≤ 17 → a' 0 j = a 0 j) (c5 : a' 321 2 = a 321 2 ∧ a' 321 3 = a 321 3) (c6 : a' 351 2 = a 351 2) (c7 : bW (a 326) → bW (a' 326)) (m1 : 0 ≤ b' 355 28 ∧ b' 355 28 ≤ 16) (g : ∀ c : Nat, 355 < c → ¬ scM c → c ≠ 357 → c ≠ 369 → b' c = b c) (r : ∀ j : Int, kfM j → j ≠ 28 → b' 355 j = b 355 j) : JJ k a' b' := by
  obtain ⟨x1, x2, x3, x4, x5, x6, x7⟩ := h
  refine ⟨hT, JU.mk c1 m1 hU, x3.c (fun c p q => f c (by omega) (by omega) (by unfold scC; omega) (by omega) (by omega) (by omega) (by omega)) (g 358 (by decide) (by unfold scM; omega) (by decide) (by decide)) (g 359 (by decide) (by unfold scM; omega) (by decide) (by decide)), x4.c c5.1 c5.2 (f 322 (by decide) (by decide) (by unfold scC; omega) (by decide) (by decide) (by decide) (by decide)) (r _ (by unfold kfM; omega) (by decide)) (r _ (by unfold kfM; omega) (by decide)) (g 361 (by decide) (by unfold scM; omega) (by decide) (by decide)) (g 362 (by decide) (by unfold scM; omega) (by decide) (by decide)), x5.c (Int.le_refl _) (c4 15 (by decide) (by decide)) (c4 16 (by decide) (by decide)) (c4 17 (by decide) (by decide)) (f 354 (by decide) (by decide) (by unfold scC; omega) (by decide) (by decide) (by decide) (by decide)) (r _ (by unfold kfM; omega) (by decide)) (r _ (by unfold kfM; omega) (by decide)) (r _ (by unfold kfM; omega) (by decide)) (g 356 (by decide) (by unfold scM; omega) (by decide) (by decide)), x6.c c6 (f 352 (by decide) (by decide) (by unfold scC; omega) (by decide) (by decide) (by decide) (by decide)) (r _ (by unfold kfM; omega) (by decide)) (g 384 (by decide) (by unfold scM; omega) (by decide) (by decide)) (g 385 (by decide) (by unfold scM; omega) (by decide) (by decide)) (g 386 (by decide) (by unfold scM; omega) (by decide) (by decide)), c7 x7⟩
theorem m_Un_takeBack : Cond.instanceMethod y_Un_takeBack.1 ∈ zTb ∧ Cond.selects y_Un_takeBack.1.cls y_Un_takeBack.1 y_Un_takeBack.1 ∈ zTb ∧ Cond.initialized y_Un_takeBack.1.cls ∈ zTb ∧ Cond.code y_Un_takeBack.1 y_Un_takeBack.2.1 y_Un_takeBack.2.2.1 y_Un_takeBack.2.2.2 ∈ zTb ∧ (y_Un_takeBack.1.cls ≠ "java/lang/invoke/MethodHandle" ∧ y_Un_takeBack.1.cls ≠ "java/lang/invoke/VarHandle" ∧ (parseMethodDescriptor y_Un_takeBack.1.desc).map (fun d => d.parameters.length) = some 1) ∧ y_Un_takeBack.2.2.1 ≤ 20 :=
  ⟨(zTb_in 1075 (by decide +kernel) (by decide +kernel)), (zTb_in 1076 (by decide +kernel) (by decide +kernel)), (zTb_in 142 (by decide +kernel) (by decide +kernel)), (zTb_in 1077 (by decide +kernel) (by decide +kernel)), by decide +kernel, by decide +kernel⟩
theorem lv_D_323 : zLv "DebtDoors" 323 y_Un_takeBack 1 10 := ⟨⟨(zTb_in 1074 (by decide +kernel) (by decide +kernel)), m_Un_takeBack.1, m_Un_takeBack.2.1, m_Un_takeBack.2.2⟩, _, rfl, rfl⟩
def y_D_undo : zMt := (⟨"DebtDoors", "undo", "()I"⟩, prog_1_method_35_code, 1, some .int)
theorem d_D_undo_0 : decode prog_1_method_35_code 0 = .ok (.aload_n 0, 1) := by decide +kernel
theorem d_D_undo_1 : decode prog_1_method_35_code 1 = .ok (.getfield 34, 3) := by decide +kernel
theorem d_D_undo_4 : decode prog_1_method_35_code 4 = .ok (.getfield 322, 3) := by decide +kernel
theorem d_D_undo_7 : decode prog_1_method_35_code 7 = .ok (.ifCond .ne 10, 3) := by decide +kernel
theorem d_D_undo_10 : decode prog_1_method_35_code 10 = .ok (.aload_n 0, 1) := by decide +kernel
theorem d_D_undo_11 : decode prog_1_method_35_code 11 = .ok (.bipush (-3), 2) := by decide +kernel
theorem d_D_undo_13 : decode prog_1_method_35_code 13 = .ok (.invokevirtual 108, 3) := by decide +kernel
theorem d_D_undo_16 : decode prog_1_method_35_code 16 = .ok (.ireturn, 1) := by decide +kernel
theorem d_D_undo_17 : decode prog_1_method_35_code 17 = .ok (.aload_n 0, 1) := by decide +kernel
theorem d_D_undo_18 : decode prog_1_method_35_code 18 = .ok (.aload_n 0, 1) := by decide +kernel
theorem d_D_undo_19 : decode prog_1_method_35_code 19 = .ok (.getfield 34, 3) := by decide +kernel
theorem d_D_undo_22 : decode prog_1_method_35_code 22 = .ok (.aload_n 0, 1) := by decide +kernel
theorem d_D_undo_23 : decode prog_1_method_35_code 23 = .ok (.getfield 12, 3) := by decide +kernel
theorem d_D_undo_26 : decode prog_1_method_35_code 26 = .ok (.getfield 115, 3) := by decide +kernel
theorem d_D_undo_29 : decode prog_1_method_35_code 29 = .ok (.invokevirtual 323, 3) := by decide +kernel
theorem d_D_undo_32 : decode prog_1_method_35_code 32 = .ok (.invokevirtual 130, 3) := by decide +kernel
theorem d_D_undo_35 : decode prog_1_method_35_code 35 = .ok (.ireturn, 1) := by decide +kernel
def w_D_undo {d : Nat} (hd : 1 ≤ d) := (show SS ("DebtDoors", prog_1_method_35_code, 1) (some .int) d 0 0 0 0 _ from (sS (p1 := 17) (sIf (pn := 17) (tt := 10) (xC (rNot (rJ1 (tgt := 17) k_ne (rF 3 fl_D_322 nk_10_3 (rFr fl_D_34 nk_11_4 (rAn 0 d_D_undo_0 rfl) d_D_undo_1) d_D_undo_4 rfl) d_D_undo_7 (by decide)))) (sRi (xV lv_D_108 (xA (rAi (rAr rA0 (rAn 0 d_D_undo_10 rfl)) (rB d_D_undo_11 rfl))) (by decide) d_D_undo_13) d_D_undo_16 rfl)) (sRi (xV lv_D_130 (xAi (xA (rAr rA0 (rAn 0 d_D_undo_17 rfl))) (xV lv_D_323 (xA (rAr (rAr rA0 (rFr fl_D_34 nk_11_4 (rAn 0 d_D_undo_18 rfl) d_D_undo_19)) (rFr fl_D_115 nk_9_0 (rFr fl_D_12 nk_11_0 (rAn 0 d_D_undo_22 rfl) d_D_undo_23) d_D_undo_26))) (by decide) d_D_undo_29)) (by decide) d_D_undo_32) d_D_undo_35 rfl)))
def y_M_undo : zMt := (⟨"DebtDoorsModel", "undo", "()I"⟩, prog_14_method_85_code, 3, some .int)
theorem d_M_undo_0 : decode prog_14_method_85_code 0 = .ok (.aload_n 0, 1) := by decide +kernel
theorem d_M_undo_1 : decode prog_14_method_85_code 1 = .ok (.getfield 11, 3) := by decide +kernel
theorem d_M_undo_4 : decode prog_14_method_85_code 4 = .ok (.ifCond .ne 10, 3) := by decide +kernel
theorem d_M_undo_7 : decode prog_14_method_85_code 7 = .ok (.aload_n 0, 1) := by decide +kernel
theorem d_M_undo_8 : decode prog_14_method_85_code 8 = .ok (.bipush (-3), 2) := by decide +kernel
theorem d_M_undo_10 : decode prog_14_method_85_code 10 = .ok (.invokevirtual 127, 3) := by decide +kernel
theorem d_M_undo_13 : decode prog_14_method_85_code 13 = .ok (.ireturn, 1) := by decide +kernel
theorem d_M_undo_14 : decode prog_14_method_85_code 14 = .ok (.aload_n 0, 1) := by decide +kernel
theorem d_M_undo_15 : decode prog_14_method_85_code 15 = .ok (.dup, 1) := by decide +kernel
theorem d_M_undo_16 : decode prog_14_method_85_code 16 = .ok (.getfield 11, 3) := by decide +kernel
theorem d_M_undo_19 : decode prog_14_method_85_code 19 = .ok (.iconst 1, 1) := by decide +kernel
theorem d_M_undo_20 : decode prog_14_method_85_code 20 = .ok (.isub, 1) := by decide +kernel
theorem d_M_undo_21 : decode prog_14_method_85_code 21 = .ok (.putfield 11, 3) := by decide +kernel
theorem d_M_undo_24 : decode prog_14_method_85_code 24 = .ok (.bipush 74, 2) := by decide +kernel
theorem d_M_undo_26 : decode prog_14_method_85_code 26 = .ok (.aload_n 0, 1) := by decide +kernel
theorem d_M_undo_27 : decode prog_14_method_85_code 27 = .ok (.getfield 11, 3) := by decide +kernel
theorem d_M_undo_30 : decode prog_14_method_85_code 30 = .ok (.imul, 1) := by decide +kernel
theorem d_M_undo_31 : decode prog_14_method_85_code 31 = .ok (.istore_n 1, 1) := by decide +kernel
theorem d_M_undo_32 : decode prog_14_method_85_code 32 = .ok (.iconst 0, 1) := by decide +kernel
theorem d_M_undo_33 : decode prog_14_method_85_code 33 = .ok (.istore_n 2, 1) := by decide +kernel
theorem d_M_undo_34 : decode prog_14_method_85_code 34 = .ok (.iload_n 2, 1) := by decide +kernel
theorem d_M_undo_35 : decode prog_14_method_85_code 35 = .ok (.bipush 73, 2) := by decide +kernel
theorem d_M_undo_37 : decode prog_14_method_85_code 37 = .ok (.if_icmp .ge 23, 3) := by decide +kernel
theorem d_M_undo_40 : decode prog_14_method_85_code 40 = .ok (.aload_n 0, 1) := by decide +kernel
theorem d_M_undo_41 : decode prog_14_method_85_code 41 = .ok (.getfield 24, 3) := by decide +kernel
theorem d_M_undo_44 : decode prog_14_method_85_code 44 = .ok (.iload_n 2, 1) := by decide +kernel
theorem d_M_undo_45 : decode prog_14_method_85_code 45 = .ok (.aload_n 0, 1) := by decide +kernel
theorem d_M_undo_46 : decode prog_14_method_85_code 46 = .ok (.getfield 65, 3) := by decide +kernel
theorem d_M_undo_49 : decode prog_14_method_85_code 49 = .ok (.iload_n 1, 1) := by decide +kernel
theorem d_M_undo_50 : decode prog_14_method_85_code 50 = .ok (.iload_n 2, 1) := by decide +kernel
theorem d_M_undo_51 : decode prog_14_method_85_code 51 = .ok (.iadd, 1) := by decide +kernel
theorem d_M_undo_52 : decode prog_14_method_85_code 52 = .ok (.iaload, 1) := by decide +kernel
theorem d_M_undo_53 : decode prog_14_method_85_code 53 = .ok (.iastore, 1) := by decide +kernel
theorem d_M_undo_54 : decode prog_14_method_85_code 54 = .ok (.iinc 2 1, 3) := by decide +kernel
theorem d_M_undo_57 : decode prog_14_method_85_code 57 = .ok (.goto (-23), 3) := by decide +kernel
theorem d_M_undo_60 : decode prog_14_method_85_code 60 = .ok (.aload_n 0, 1) := by decide +kernel
theorem d_M_undo_61 : decode prog_14_method_85_code 61 = .ok (.aload_n 0, 1) := by decide +kernel
theorem d_M_undo_62 : decode prog_14_method_85_code 62 = .ok (.getfield 65, 3) := by decide +kernel
theorem d_M_undo_65 : decode prog_14_method_85_code 65 = .ok (.iload_n 1, 1) := by decide +kernel
theorem d_M_undo_66 : decode prog_14_method_85_code 66 = .ok (.bipush 73, 2) := by decide +kernel
theorem d_M_undo_68 : decode prog_14_method_85_code 68 = .ok (.iadd, 1) := by decide +kernel
theorem d_M_undo_69 : decode prog_14_method_85_code 69 = .ok (.iaload, 1) := by decide +kernel
theorem d_M_undo_70 : decode prog_14_method_85_code 70 = .ok (.invokevirtual 14, 3) := by decide +kernel
theorem d_M_undo_73 : decode prog_14_method_85_code 73 = .ok (.ireturn, 1) := by decide +kernel
def w_M_undo {d : Nat} (hd : 1 ≤ d) := (show SS ("DebtDoorsModel", prog_14_method_85_code, 3) (some .int) d 0 0 0 0 _ from (sS (p1 := 14) (sIf (pn := 14) (tt := 7) (xC (rNot (rJ1 (tgt := 14) k_ne (rF 28 fl_M_11 nk_12_28 (rAn 0 d_M_undo_0 rfl) d_M_undo_1 rfl) d_M_undo_4 (by decide)))) (sRi (xV lv_M_127 (xA (rAi (rAr rA0 (rAn 0 d_M_undo_7 rfl)) (rB d_M_undo_8 rfl))) (by decide) d_M_undo_10) d_M_undo_13 rfl)) (sS (p1 := 24) (sPo 28 o_sub fl_M_11 fp_12_28 nk_12_28 (rAn 0 d_M_undo_14 rfl) d_M_undo_15 d_M_undo_16 (rI d_M_undo_19 rfl) d_M_undo_20 d_M_undo_21 rfl) (sS (p1 := 32) (sIn 1 (xE (r2 o_mul (rB d_M_undo_24 rfl) (rF 28 fl_M_11 nk_12_28 (rAn 0 d_M_undo_26 rfl) d_M_undo_27 rfl) d_M_undo_30)) d_M_undo_31 rfl (by decide)) (sS (p1 := 60) (sS (p1 := 34) (sIn 2 (xE (rI d_M_undo_32 rfl)) d_M_undo_33 rfl (by decide)) (sLp (ps := 54) (tt := 40) (pn := 60) (p1 := 0) (p2 := 0) (xC (rNot (rJ2 (tgt := 60) j_ge (rIn 2 d_M_undo_34 rfl) (rB d_M_undo_35 rfl) d_M_undo_37 (by decide)))) (sAs (rFr fl_M_24 nk_12_2 (rAn 0 d_M_undo_40 rfl) d_M_undo_41) (rIn 2 d_M_undo_44 rfl) (xE (rIa (rFr fl_M_65 nk_12_26 (rAn 0 d_M_undo_45 rfl) d_M_undo_46) (r2 o_add (rIn 1 d_M_undo_49 rfl) (rIn 2 d_M_undo_50 rfl) d_M_undo_51) d_M_undo_52)) d_M_undo_53) (sGo (pn := 34) (sInc d_M_undo_54 (by decide)) d_M_undo_57 (by decide)))) (sRi (xV lv_M_14 (xA (rAi (rAr rA0 (rAn 0 d_M_undo_60 rfl)) (rIa (rFr fl_M_65 nk_12_26 (rAn 0 d_M_undo_61 rfl) d_M_undo_62) (r2 o_add (rIn 1 d_M_undo_65 rfl) (rB d_M_undo_66 rfl) d_M_undo_68) d_M_undo_69))) (by decide) d_M_undo_70) d_M_undo_73 rfl))))))
theorem LC_undo : LC y_D_undo y_M_undo [] := LC.mk (fun k μ h0 h1 hJ => by
  obtain ⟨j1, j2, j3, j4⟩ := hJ.2.1
  have hr := hJ.rD h0 h1
  refine ⟨zit (μ 111 3 = 0) (-3) 0, fun v μ1 => v = μ 113 (slI μ 111 (μ 111 3 - 1)) ∧ ∃ Y, lgO Y 2 = lgO μ (slC 111 (slI μ 111 (μ 111 3 - 1))) ∧ unD Y 111 = (unD μ 111).dropLast ∧ Y 111 = zm μ 111 3 (μ 111 3 - 1) 111 ∧ zfc [111, 2, 3, 4, 5, 6, 7] μ Y ∧ Y 2 5 = μ (slC 111 (slI μ 111 (μ 111 3 - 1))) 5 ∧ μ1 = zm Y 0 15 0, fun μ1 v μ2 => v = μ1 369 (74 * (μ1 355 28 - 1) + 73) ∧ ∃ Y, Y 355 28 = μ1 355 28 - 1 ∧ (∀ j : Int, j ≠ 28 → Y 355 j = μ1 355 j) ∧ (∀ j : Int, Y 357 j = zit (0 ≤ j ∧ j < 73) (μ1 369 (74 * (μ1 355 28 - 1) + j)) (μ1 357 j)) ∧ zfc [355, 357] μ1 Y ∧ μ2 = zm Y 355 0 0, by unfold zit; split <;> omega, ?_, ?_, ?_⟩
  · refine zCw.use (zSp.ss [vr 0] rfl (w_D_undo (d := 100) (by decide)) rfl rfl ?_) (by decide) (fun q μ' e => e)
    (try simp only [zit_e, Bool.and_eq_true, Bool.or_eq_true, Bool.not_eq_true', Bool.and_eq_false_iff, Bool.or_eq_false_iff, Bool.not_eq_false', zbe, zdt, zdf, zb2_p, zbp_0, zbp_1, zbp_inj, zbp_01, Bool.true_eq_false, Bool.false_eq_true, true_and, and_true, Decidable.not_not, Classical.not_not, implies_true, List.nil_append, List.cons_append, List.append_assoc, Option.some.injEq, Sum.inl.injEq, zSw_c, zSw_n]); (try simp only [zit_e, Bool.and_eq_true, Bool.or_eq_true, Bool.not_eq_true', Bool.and_eq_false_iff, Bool.or_eq_false_iff, Bool.not_eq_false', zbe, zdt, zdf, zb2_p, zbp_0, zbp_1, zbp_inj, zbp_01, Bool.true_eq_false, Bool.false_eq_true, true_and, and_true, Decidable.not_not, Classical.not_not, implies_true, List.nil_append, List.cons_append, List.append_assoc, Option.some.injEq, Sum.inl.injEq, zSw_c, zSw_n, zc_0, zc_1, zc_2, zc_111]); (try simp only [zi_cs, zi_c0, zii_cs, zii_c0, zl_cs, zl_c0, zll_cs, zll_c0, zr_cs, zr_c0, zrr_cs, zrr_c0, zxs_cs, zxs_c0, zxx_cs, zxx_c0, zfree_c0, zfree_c1, zfree_cs, zfree_cz, zlong_i, zlong_r, zlong_x, zset_0, zset_s, true_and, and_true, Option.some.injEq, Sum.inl.injEq, Sum.inr.injEq, zb2_p, zbp_0, zbp_1, zbp_inj, zbp_01, Nat.zero_add, Nat.reduceAdd, implies_true, List.nil_append, List.cons_append, List.append_assoc, Int.not_lt, Int.not_le, Decidable.not_not, Int.zero_add, Int.reduceLE, Int.reduceLT, Int.reduceEq, Int.reduceNe, Int.reduceAdd, Int.reduceSub, Int.reduceMul, Int.reduceNeg, Int.reduceToNat, Nat.reduceMul, Nat.reduceLT, Nat.reduceEqDiff, and_self, ite_true, ite_false, zx1, zx2, zRecv, List.length_cons, List.length_nil, ne_eq, not_true_eq_false, not_false_eq_true, true_or, or_true, or_false, false_or, and_false, false_and, zf01, zf10, reduceCtorEq, zSw_c, zSw_n, zm_r, zit_T, zit_F, false_implies, true_implies, zc_0, zc_1, zc_2, zc_111])
    refine zif (fun c => ?_) (fun c => ?_)
    · rw [zit_t c]
      exact rfD_w (by omega) (by omega) hr ⟨_, rfl, OD.no rfl (by decide) PJc.rf⟩
    rw [zit_f c]
    refine zCw.use (q_Un_takeBack2 (d := 5) (by decide) ⟨j1.1, by omega, j1.2.2⟩ (j3 _ slI_in.1 slI_in.2)) (by decide) (fun q Y e => ?_)
    obtain ⟨rfl, e1, e2, e3, e4, e5⟩ := e
    exact ⟨_, rfl, acD_w (by omega) ⟨_, rfl, OD.yes (by decide) (fun i hi => by rw [zm_off _ (by omega), e4 i (by simp only [List.mem_cons, List.not_mem_nil, or_false]; omega)]) ⟨rfl, Y, e1, e2, e3, e4, e5, rfl⟩⟩⟩
  · intro μ1 hm
    have hr := hJ.rM h0 h1 hm
    have e28 : μ1 355 28 = μ 111 3 := by rw [hm 355 (by decide), j2]
    refine zCw.use (zSp.ss [vr 355, vx 0, vx 0] rfl (w_M_undo (d := 100) (by decide)) rfl rfl ?_) (by decide) (fun q μ' e => e)
    (try simp only [zit_e, Bool.and_eq_true, Bool.or_eq_true, Bool.not_eq_true', Bool.and_eq_false_iff, Bool.or_eq_false_iff, Bool.not_eq_false', zbe, zdt, zdf, zb2_p, zbp_0, zbp_1, zbp_inj, zbp_01, Bool.true_eq_false, Bool.false_eq_true, true_and, and_true, Decidable.not_not, Classical.not_not, implies_true, List.nil_append, List.cons_append, List.append_assoc, Option.some.injEq, Sum.inl.injEq, zSw_c, zSw_n]); (try simp only [zit_e, Bool.and_eq_true, Bool.or_eq_true, Bool.not_eq_true', Bool.and_eq_false_iff, Bool.or_eq_false_iff, Bool.not_eq_false', zbe, zdt, zdf, zb2_p, zbp_0, zbp_1, zbp_inj, zbp_01, Bool.true_eq_false, Bool.false_eq_true, true_and, and_true, Decidable.not_not, Classical.not_not, implies_true, List.nil_append, List.cons_append, List.append_assoc, Option.some.injEq, Sum.inl.injEq, zSw_c, zSw_n, zc_355]); (try simp only [zi_cs, zi_c0, zii_cs, zii_c0, zl_cs, zl_c0, zll_cs, zll_c0, zr_cs, zr_c0, zrr_cs, zrr_c0, zxs_cs, zxs_c0, zxx_cs, zxx_c0, zfree_c0, zfree_c1, zfree_cs, zfree_cz, zlong_i, zlong_r, zlong_x, zset_0, zset_s, true_and, and_true, Option.some.injEq, Sum.inl.injEq, Sum.inr.injEq, zb2_p, zbp_0, zbp_1, zbp_inj, zbp_01, Nat.zero_add, Nat.reduceAdd, implies_true, List.nil_append, List.cons_append, List.append_assoc, Int.not_lt, Int.not_le, Decidable.not_not, Int.zero_add, Int.reduceLE, Int.reduceLT, Int.reduceEq, Int.reduceNe, Int.reduceAdd, Int.reduceSub, Int.reduceMul, Int.reduceNeg, Int.reduceToNat, Nat.reduceMul, Nat.reduceLT, Nat.reduceEqDiff, and_self, ite_true, ite_false, zx1, zx2, zRecv, List.length_cons, List.length_nil, ne_eq, not_true_eq_false, not_false_eq_true, true_or, or_true, or_false, false_or, and_false, false_and, zf01, zf10, reduceCtorEq, zSw_c, zSw_n, zm_r, zit_T, zit_F, false_implies, true_implies, zc_355])
    rw [e28]
    refine zif (fun c => ?_) (fun c => ?_)
    · rw [zit_t c]
      exact rfM_w (by omega) (by omega) hr ⟨_, rfl, OM.no rfl (by decide) PJm.rf⟩
    rw [zit_f c]
    generalize μ 111 3 = n at *
    refine ⟨by ((try simp only [zI_e]); (first | done | omega | skip)), by ((try simp only [zI_e]); (first | done | omega | skip)), ?_⟩
    refine zLoop.up 73 (fun j ρ ν => ρ = [vr 355, vi (74 * (n - 1)), vi j] ∧ (∀ y, ν 357 y = zit (0 ≤ y ∧ y < j) (μ1 369 (74 * (n - 1) + y)) (μ1 357 y)) ∧ zfc [357] (zm μ1 355 28 (n - 1)) ν) ⟨rfl, fun y => by rw [zit_f (by omega), zm_off _ (by decide)], zfc.rf⟩ ?_
    rintro j ρ ν hj ⟨rfl, hm1, hf⟩
    (try simp only [zit_e, Bool.and_eq_true, Bool.or_eq_true, Bool.not_eq_true', Bool.and_eq_false_iff, Bool.or_eq_false_iff, Bool.not_eq_false', zbe, zdt, zdf, zb2_p, zbp_0, zbp_1, zbp_inj, zbp_01, Bool.true_eq_false, Bool.false_eq_true, true_and, and_true, Decidable.not_not, Classical.not_not, implies_true, List.nil_append, List.cons_append, List.append_assoc, Option.some.injEq, Sum.inl.injEq, zSw_c, zSw_n]); (try simp only [zit_e, Bool.and_eq_true, Bool.or_eq_true, Bool.not_eq_true', Bool.and_eq_false_iff, Bool.or_eq_false_iff, Bool.not_eq_false', zbe, zdt, zdf, zb2_p, zbp_0, zbp_1, zbp_inj, zbp_01, Bool.true_eq_false, Bool.false_eq_true, true_and, and_true, Decidable.not_not, Classical.not_not, implies_true, List.nil_append, List.cons_append, List.append_assoc, Option.some.injEq, Sum.inl.injEq, zSw_c, zSw_n, zc_355]); (try simp only [zi_cs, zi_c0, zii_cs, zii_c0, zl_cs, zl_c0, zll_cs, zll_c0, zr_cs, zr_c0, zrr_cs, zrr_c0, zxs_cs, zxs_c0, zxx_cs, zxx_c0, zfree_c0, zfree_c1, zfree_cs, zfree_cz, zlong_i, zlong_r, zlong_x, zset_0, zset_s, true_and, and_true, Option.some.injEq, Sum.inl.injEq, Sum.inr.injEq, zb2_p, zbp_0, zbp_1, zbp_inj, zbp_01, Nat.zero_add, Nat.reduceAdd, implies_true, List.nil_append, List.cons_append, List.append_assoc, Int.not_lt, Int.not_le, Decidable.not_not, Int.zero_add, Int.reduceLE, Int.reduceLT, Int.reduceEq, Int.reduceNe, Int.reduceAdd, Int.reduceSub, Int.reduceMul, Int.reduceNeg, Int.reduceToNat, Nat.reduceMul, Nat.reduceLT, Nat.reduceEqDiff, and_self, ite_true, ite_false, zx1, zx2, zRecv, List.length_cons, List.length_nil, ne_eq, not_true_eq_false, not_false_eq_true, true_or, or_true, or_false, false_or, and_false, false_and, zf01, zf10, reduceCtorEq, zSw_c, zSw_n, zm_r, zit_T, zit_F, false_implies, true_implies, zc_355])
    have k9 : ν 369 = μ1 369 := (hf 369 (by decide)).trans (zm_off _ (by decide))
    refine zif (fun c2 => ?_) (fun c2 => ?_)
    · refine ⟨by omega, by omega, by ((try simp only [zI_e]); (first | done | omega | skip)), by ((try simp only [zI_e]); (first | done | omega | skip)), znx (by omega) ⟨rfl, fun y => ?_, hf.zm (by decide)⟩⟩
      rw [k9, hm1]
      by_cases ey : y = j
      · rw [zit_t ey, zit_t (by omega), ey]
      · rw [zit_f ey]
        by_cases e2 : 0 ≤ y ∧ y < j
        · rw [zit_t e2, zit_t (by omega)]
        · rw [zit_f e2, zit_f (by omega)]
    · have hj : j = 73 := by omega
      subst hj
      refine ⟨⟨by ((try simp only [zI_e]); (first | done | omega | skip)), by omega, by omega⟩, ?_⟩
      refine zCw.use (q_M_good (d := 1) (by decide)) (by decide) (fun q Y e => ?_)
      obtain ⟨rfl, rfl⟩ := e
      have h5 : ν 355 = zm μ1 355 28 (n - 1) 355 := hf 355 (by decide)
      have hg : zfc [355, 357] μ1 ν := ((zfc.rf (cs := [355]) (μ := μ1)).zm (j := 28) (v := n - 1) (by decide) |>.tr hf).mo (by simp)
      refine ⟨_, rfl, OM.yes (by decide) ((hg.hc (by simp)).sm (by omega)) ⟨by rw [k9], ν, by rw [h5, zm_s], fun j hj => by rw [h5, zm_o (by omega)], hm1, hg, rfl⟩⟩
  · rintro c w1 w2 μ1 μ2 hm ⟨rfl, X, x1, x2, x3, x4, x5, eD⟩ hc ⟨rfl, Y, y1, y2, y3, y4, rfl⟩
    have hJ1 := hJ.m HC.rf hm
    have hn : μ 111 3 ≠ 0 := fun q => by
      rw [zit_t q] at c
      omega
    clear hJ
    obtain ⟨u1, u2, u3, u4⟩ := hJ1.2.1
    have e28 := u2
    have hsl := slI_in (μ := μ) (U := 111) (i := μ 111 3 - 1)
    have hl := unD_last (a := μ) (U := 111) (by omega)
    have hm := unM_last (b := μ1) (by omega)
    rw [e28] at hm
    obtain ⟨r1, ⟨r2, r3, r4⟩, ⟨r5, r6⟩, r7, r8⟩ := u4.2 _ _ _ hl hm
    have rg : ∀ j : Int, 0 ≤ j → j < 74 → gL 0 (rwM μ1 369 (μ 111 3 - 1)) j = μ1 369 (74 * (μ 111 3 - 1) + j) := fun j p q => gL_tL p q
    rw [e28] at y1 y3
    rw [rg _ (by decide) (by decide)] at r3 r5 r7
    have h3 := u3 _ hsl.1 hsl.2
    refine ⟨by rw [e28]; exact r7.symm, JJ.eqD eD (JJ.ok (JJ.un hJ1 ?_ ?_ ?_ (fun c p q _ _ _ _ r => x4 c (by simp only [List.mem_cons, List.not_mem_nil, or_false]; omega)) (fun j _ _ => by rw [x4 0 (by decide)]) ⟨by rw [x4 321 (by decide)], by rw [x4 321 (by decide)]⟩ (by rw [x4 351 (by decide)]) (fun z => by rw [x4 326 (by decide)]; exact z) (by omega) (fun c _ _ _ _ => y4 c (by simp only [List.mem_cons, List.not_mem_nil, or_false]; omega)) (fun j _ hj => y2 j hj)) (by omega) rfl)⟩
    · have yg : ∀ j : Int, 0 ≤ j → j < 73 → Y 357 j = gL 0 (rwM μ1 369 (μ 111 3 - 1)) j := fun j p q => by rw [y3, zit_t ⟨p, q⟩, rg j p (by omega)]
      refine TJ.lg hJ1.1 (fun c hc => x4 c (by simp only [List.mem_cons, List.not_mem_nil, or_false]; omega)) (fun i hi => by rw [y3, zit_f (by omega)]) ⟨fun i p q => by rw [(r1 i p q).1]; exact (r1 i p q).2, r2, r6⟩ x1 (by rw [x5]; exact h3.1) (lgM_is ?_ ?_ ?_) ?_
      · refine tL_congr (fun i p q => ?_)
        rw [yg i p (by omega), ← (r1 i p (by omega)).1]
        exact gL_tL p q
      · refine Eq.trans ?_ r4
        refine (dbM_c (μ := fun _ => gL 0 (rwM μ1 369 (μ 111 3 - 1))) ?_ (fun j p q => yg j (by omega) (by omega)))
        show gL 0 (rwM μ1 369 (μ 111 3 - 1)) 71 ≤ 16
        have := r2.1
        rw [rg _ (by decide) (by decide), r3]
        omega
      · rw [yg 72 (by decide) (by decide), rg _ (by decide) (by decide)]
        exact r5
      · rw [yg 71 (by decide) (by decide), rg _ (by decide) (by decide), r3]
        omega
    · refine ⟨by rw [x3]; exact ⟨by rw [zm_o (by omega)]; exact u1.1, by rw [zm_s]; omega⟩, fun s p q => ?_⟩
      have := slC_n ⟨p, q⟩
      rw [x4 _ (by simp only [List.mem_cons, List.not_mem_nil, or_false]; omega)]
      exact u3 s p q
    · rw [x2, unM_dr (b := μ1) (by omega) (by omega) (y4 369 (by decide))]
      exact u4.dr)

