theorem m_M_canRepay : Cond.instanceMethod y_M_canRepay.1 ∈ zTb ∧ Cond.selects y_M_canRepay.1.cls y_M_canRepay.1 y_M_canRepay.1 ∈ zTb ∧ Cond.initialized y_M_canRepay.1.cls ∈ zTb ∧ Cond.code y_M_canRepay.1 y_M_canRepay.2.1 y_M_canRepay.2.2.1 y_M_canRepay.2.2.2 ∈ zTb ∧ (y_M_canRepay.1.cls ≠ "java/lang/invoke/MethodHandle" ∧ y_M_canRepay.1.cls ≠ "java/lang/invoke/VarHandle" ∧ (parseMethodDescriptor y_M_canRepay.1.desc).map (fun d => d.parameters.length) = some 3) ∧ y_M_canRepay.2.2.1 ≤ 20 :=
  ⟨(zTb_in 1852 (by decide +kernel) (by decide +kernel)), (List.mem_filter.mpr ⟨List.mem_append_left _ (by decide +kernel), by decide +kernel⟩), (zTb_in 151 (by decide +kernel) (by decide +kernel)), (zTb_in 1853 (by decide +kernel) (by decide +kernel)), by decide +kernel, by decide +kernel⟩
theorem lv_M_369 : zLv "DebtDoorsModel" 369 y_M_canRepay 3 12 := ⟨⟨(zTb_in 1850 (by decide +kernel) (by decide +kernel)), m_M_canRepay.1, m_M_canRepay.2.1, m_M_canRepay.2.2⟩, _, rfl, rfl⟩
theorem m_M_repays : Cond.instanceMethod y_M_repays.1 ∈ zTb ∧ Cond.selects y_M_repays.1.cls y_M_repays.1 y_M_repays.1 ∈ zTb ∧ Cond.initialized y_M_repays.1.cls ∈ zTb ∧ Cond.code y_M_repays.1 y_M_repays.2.1 y_M_repays.2.2.1 y_M_repays.2.2.2 ∈ zTb ∧ (y_M_repays.1.cls ≠ "java/lang/invoke/MethodHandle" ∧ y_M_repays.1.cls ≠ "java/lang/invoke/VarHandle" ∧ (parseMethodDescriptor y_M_repays.1.desc).map (fun d => d.parameters.length) = some 3) ∧ y_M_repays.2.2.1 ≤ 20 :=
  ⟨(zTb_in 1856 (by decide +kernel) (by decide +kernel)), (List.mem_filter.mpr ⟨List.mem_append_left _ (by decide +kernel), by decide +kernel⟩), (zTb_in 151 (by decide +kernel) (by decide +kernel)), (zTb_in 1857 (by decide +kernel) (by decide +kernel)), by decide +kernel, by decide +kernel⟩
theorem lv_M_372 : zLv "DebtDoorsModel" 372 y_M_repays 3 12 := ⟨⟨(zTb_in 1854 (by decide +kernel) (by decide +kernel)), m_M_repays.1, m_M_repays.2.1, m_M_repays.2.2⟩, _, rfl, rfl⟩
def y_M_repaysKept : zMt := (⟨"DebtDoorsModel", "repaysKept", "(III)I"⟩, prog_14_method_92_code, 5, some .int)
theorem d_M_repaysKept_0 : decode prog_14_method_92_code 0 = .ok (.iload_n 3, 1) := by decide +kernel
theorem d_M_repaysKept_1 : decode prog_14_method_92_code 1 = .ok (.invokestatic 155, 3) := by decide +kernel
theorem d_M_repaysKept_4 : decode prog_14_method_92_code 4 = .ok (.ifCond .ne 5, 3) := by decide +kernel
theorem d_M_repaysKept_7 : decode prog_14_method_92_code 7 = .ok (.iconst (-1), 1) := by decide +kernel
theorem d_M_repaysKept_8 : decode prog_14_method_92_code 8 = .ok (.ireturn, 1) := by decide +kernel
theorem d_M_repaysKept_9 : decode prog_14_method_92_code 9 = .ok (.aload_n 0, 1) := by decide +kernel
theorem d_M_repaysKept_10 : decode prog_14_method_92_code 10 = .ok (.iload_n 1, 1) := by decide +kernel
theorem d_M_repaysKept_11 : decode prog_14_method_92_code 11 = .ok (.invokevirtual 152, 3) := by decide +kernel
theorem d_M_repaysKept_14 : decode prog_14_method_92_code 14 = .ok (.ifCond .eq 11, 3) := by decide +kernel
theorem d_M_repaysKept_17 : decode prog_14_method_92_code 17 = .ok (.aload_n 0, 1) := by decide +kernel
theorem d_M_repaysKept_18 : decode prog_14_method_92_code 18 = .ok (.iload_n 2, 1) := by decide +kernel
theorem d_M_repaysKept_19 : decode prog_14_method_92_code 19 = .ok (.invokevirtual 152, 3) := by decide +kernel
theorem d_M_repaysKept_22 : decode prog_14_method_92_code 22 = .ok (.ifCond .ne 6, 3) := by decide +kernel
theorem d_M_repaysKept_25 : decode prog_14_method_92_code 25 = .ok (.bipush (-2), 2) := by decide +kernel
theorem d_M_repaysKept_27 : decode prog_14_method_92_code 27 = .ok (.ireturn, 1) := by decide +kernel
theorem d_M_repaysKept_28 : decode prog_14_method_92_code 28 = .ok (.aload_n 0, 1) := by decide +kernel
theorem d_M_repaysKept_29 : decode prog_14_method_92_code 29 = .ok (.iload_n 1, 1) := by decide +kernel
theorem d_M_repaysKept_30 : decode prog_14_method_92_code 30 = .ok (.iload_n 2, 1) := by decide +kernel
theorem d_M_repaysKept_31 : decode prog_14_method_92_code 31 = .ok (.iload_n 3, 1) := by decide +kernel
theorem d_M_repaysKept_32 : decode prog_14_method_92_code 32 = .ok (.invokevirtual 369, 3) := by decide +kernel
theorem d_M_repaysKept_35 : decode prog_14_method_92_code 35 = .ok (.istore 4, 2) := by decide +kernel
theorem d_M_repaysKept_37 : decode prog_14_method_92_code 37 = .ok (.iload 4, 2) := by decide +kernel
theorem d_M_repaysKept_39 : decode prog_14_method_92_code 39 = .ok (.ifCond .ne 6, 3) := by decide +kernel
theorem d_M_repaysKept_42 : decode prog_14_method_92_code 42 = .ok (.bipush (-3), 2) := by decide +kernel
theorem d_M_repaysKept_44 : decode prog_14_method_92_code 44 = .ok (.ireturn, 1) := by decide +kernel
theorem d_M_repaysKept_45 : decode prog_14_method_92_code 45 = .ok (.aload_n 0, 1) := by decide +kernel
theorem d_M_repaysKept_46 : decode prog_14_method_92_code 46 = .ok (.iconst 1, 1) := by decide +kernel
theorem d_M_repaysKept_47 : decode prog_14_method_92_code 47 = .ok (.invokevirtual 357, 3) := by decide +kernel
theorem d_M_repaysKept_50 : decode prog_14_method_92_code 50 = .ok (.aload_n 0, 1) := by decide +kernel
theorem d_M_repaysKept_51 : decode prog_14_method_92_code 51 = .ok (.iload_n 1, 1) := by decide +kernel
theorem d_M_repaysKept_52 : decode prog_14_method_92_code 52 = .ok (.iload_n 2, 1) := by decide +kernel
theorem d_M_repaysKept_53 : decode prog_14_method_92_code 53 = .ok (.iload 4, 2) := by decide +kernel
theorem d_M_repaysKept_55 : decode prog_14_method_92_code 55 = .ok (.invokevirtual 372, 3) := by decide +kernel
theorem d_M_repaysKept_58 : decode prog_14_method_92_code 58 = .ok (.iload 4, 2) := by decide +kernel
theorem d_M_repaysKept_60 : decode prog_14_method_92_code 60 = .ok (.ireturn, 1) := by decide +kernel
def w_M_repaysKept {d : Nat} (hd : 4 ≤ d) := (show SS ("DebtDoorsModel", prog_14_method_92_code, 5) (some .int) d 0 0 0 0 _ from (sS (p1 := 9) (sIf (pn := 9) (tt := 7) (xC (rNot (rJ1 (tgt := 9) k_ne (rS p_M_isAmount (Nat.le_trans (Nat.le_of_ble_eq_true rfl) hd) ls_M_155 (rAi rA0 (rIn 3 d_M_repaysKept_0 rfl)) (by decide) d_M_repaysKept_1) d_M_repaysKept_4 (by decide)))) (sRi (xE (rI d_M_repaysKept_7 rfl)) d_M_repaysKept_8 rfl)) (sS (p1 := 28) (sIf (pn := 28) (tt := 25) (xC (rOr (mm := 17) (rNot (rNot (rJ1 (tgt := 25) k_eq (rV p_M_isPerson (Nat.le_trans (Nat.le_of_ble_eq_true rfl) hd) lv_M_152 (rAi (rAr rA0 (rAn 0 d_M_repaysKept_9 rfl)) (rIn 1 d_M_repaysKept_10 rfl)) (by decide) d_M_repaysKept_11) d_M_repaysKept_14 (by decide)))) (rNot (rJ1 (tgt := 28) k_ne (rV p_M_isPerson (Nat.le_trans (Nat.le_of_ble_eq_true rfl) hd) lv_M_152 (rAi (rAr rA0 (rAn 0 d_M_repaysKept_17 rfl)) (rIn 2 d_M_repaysKept_18 rfl)) (by decide) d_M_repaysKept_19) d_M_repaysKept_22 (by decide))))) (sRi (xE (rB d_M_repaysKept_25 rfl)) d_M_repaysKept_27 rfl)) (sS (p1 := 37) (sI (xE (rV p_M_canRepay (Nat.le_trans (Nat.le_of_ble_eq_true rfl) hd) lv_M_369 (rAi (rAi (rAi (rAr rA0 (rAn 0 d_M_repaysKept_28 rfl)) (rIn 1 d_M_repaysKept_29 rfl)) (rIn 2 d_M_repaysKept_30 rfl)) (rIn 3 d_M_repaysKept_31 rfl)) (by decide) d_M_repaysKept_32)) d_M_repaysKept_35 (by decide)) (sS (p1 := 45) (sIf (pn := 45) (tt := 42) (xC (rNot (rJ1 (tgt := 45) k_ne (rIl d_M_repaysKept_37) d_M_repaysKept_39 (by decide)))) (sRi (xE (rB d_M_repaysKept_42 rfl)) d_M_repaysKept_44 rfl)) (sS (p1 := 50) (sV (xVv lv_M_357 (xA (rAi (rAr rA0 (rAn 0 d_M_repaysKept_45 rfl)) (rI d_M_repaysKept_46 rfl))) (by decide) d_M_repaysKept_47)) (sS (p1 := 58) (sV (xVv lv_M_372 (xA (rAi (rAi (rAi (rAr rA0 (rAn 0 d_M_repaysKept_50 rfl)) (rIn 1 d_M_repaysKept_51 rfl)) (rIn 2 d_M_repaysKept_52 rfl)) (rIl d_M_repaysKept_53))) (by decide) d_M_repaysKept_55)) (sRi (xE (rIl d_M_repaysKept_58)) d_M_repaysKept_60 rfl))))))))
theorem q_M_repaysKept {d : Nat} (hd : 5 ≤ d) {μ : zMem} {a b m : Int} (hn : 0 ≤ μ 357 152 ∧ μ 357 152 ≤ 7) (hp : okP (μ 357)) (hD : okT (μ 357 71) (fM μ)) (hu : 0 ≤ μ 355 28 ∧ μ 355 28 ≤ 16) : zSp d 0 0 y_M_repaysKept zT0 [vr 355, vi a, vi b, vi m] μ zT0 (fun r μ' => r = some (vi (payC (μ 357 152) (μ 357) (dbM μ) a b m)) ∧ (payC (μ 357 152) (μ 357) (dbM μ) a b m < 0 → μ' = μ) ∧ (0 ≤ payC (μ 357 152) (μ 357) (dbM μ) a b m → payC (μ 357 152) (μ 357) (dbM μ) a b m = muchC (μ 357) (dbM μ) a b m ∧ (0 < muchC (μ 357) (dbM μ) a b m ∧ a ≠ b) ∧ unM μ' = kpL (unM μ) (tL 73 (μ 357) ++ [1]) ∧ (0 ≤ μ' 355 28 ∧ μ' 355 28 ≤ 16) ∧ (∀ j : Int, j ≠ 28 → μ' 355 j = μ 355 j) ∧ dbM μ' = dpL (lsL a b (muchC (μ 357) (dbM μ) a b m) (dbM μ)) ∧ (0 ≤ μ' 357 71 ∧ μ' 357 71 ≤ μ 357 71) ∧ (∀ j : Int, (j < 7 ∨ 72 ≤ j) → μ' 357 j = zit (j = b) (μ 357 b + muchC (μ 357) (dbM μ) a b m) (zit (j = a) (μ 357 a - muchC (μ 357) (dbM μ) a b m) (μ 357 j))) ∧ zfc [355, 357, 369] μ μ')) := by
  have hob := owL_bM (a := a) (b := b) hD
  refine zSp.ss [vr 355, vi a, vi b, vi m, vx 0] rfl (w_M_repaysKept (Nat.le_trans (by decide) hd)) rfl rfl ?_
  (try simp only [zit_e, Bool.and_eq_true, Bool.or_eq_true, Bool.not_eq_true', Bool.and_eq_false_iff, Bool.or_eq_false_iff, Bool.not_eq_false', zbe, zdt, zdf, zb2_p, zbp_0, zbp_1, zbp_inj, zbp_01, Bool.true_eq_false, Bool.false_eq_true, true_and, and_true, Decidable.not_not, Classical.not_not, implies_true, List.nil_append, List.cons_append, List.append_assoc, Option.some.injEq, Sum.inl.injEq, zSw_c, zSw_n]); (try simp only [zit_e, Bool.and_eq_true, Bool.or_eq_true, Bool.not_eq_true', Bool.and_eq_false_iff, Bool.or_eq_false_iff, Bool.not_eq_false', zbe, zdt, zdf, zb2_p, zbp_0, zbp_1, zbp_inj, zbp_01, Bool.true_eq_false, Bool.false_eq_true, true_and, and_true, Decidable.not_not, Classical.not_not, implies_true, List.nil_append, List.cons_append, List.append_assoc, Option.some.injEq, Sum.inl.injEq, zSw_c, zSw_n, zc_355, f_M_isAmount, g_M_isAmount, f_M_isPerson, g_M_isPerson, f_M_canRepay, g_M_canRepay]); (try simp only [zi_cs, zi_c0, zii_cs, zii_c0, zl_cs, zl_c0, zll_cs, zll_c0, zr_cs, zr_c0, zrr_cs, zrr_c0, zxs_cs, zxs_c0, zxx_cs, zxx_c0, zfree_c0, zfree_c1, zfree_cs, zfree_cz, zlong_i, zlong_r, zlong_x, zset_0, zset_s, true_and, and_true, Option.some.injEq, Sum.inl.injEq, Sum.inr.injEq, zb2_p, zbp_0, zbp_1, zbp_inj, zbp_01, Nat.zero_add, Nat.reduceAdd, implies_true, List.nil_append, List.cons_append, List.append_assoc, Int.not_lt, Int.not_le, Decidable.not_not, Int.zero_add, Int.reduceLE, Int.reduceLT, Int.reduceEq, Int.reduceNe, Int.reduceAdd, Int.reduceSub, Int.reduceMul, Int.reduceNeg, Int.reduceToNat, Nat.reduceMul, Nat.reduceLT, Nat.reduceEqDiff, and_self, ite_true, ite_false, zx1, zx2, zRecv, List.length_cons, List.length_nil, ne_eq, not_true_eq_false, not_false_eq_true, true_or, or_true, or_false, false_or, and_false, false_and, zf01, zf10, reduceCtorEq, zSw_c, zSw_n, zm_r, zit_T, zit_F, false_implies, true_implies, zc_355, f_M_isAmount, g_M_isAmount, f_M_isPerson, g_M_isPerson, f_M_canRepay, g_M_canRepay])
  have neg : ∀ {c : Int} {A : Prop}, c < 0 → payC (μ 357 152) (μ 357) (dbM μ) a b m = c → c = payC (μ 357 152) (μ 357) (dbM μ) a b m ∧ (0 ≤ payC (μ 357 152) (μ 357) (dbM μ) a b m → A) := fun hc e => by
    rw [e]
    exact ⟨rfl, fun h => absurd h (by omega)⟩
  refine zif (fun c1 => neg (by decide) (zit_t c1)) (fun c1 => ?_)
  refine ⟨⟨hn, fun _ => hn⟩, ?_⟩
  refine zif (fun c2 => neg (by decide) ((zit_f c1).trans (zit_t (by omega)))) (fun c2 => ?_)
  have hpa := hp a (by omega) (by omega)
  have hpb := hp b (by omega) (by omega)
  refine ⟨⟨hD, by omega, by omega, by omega⟩, ?_⟩
  have em : min (min m (owL a b (dbM μ))) (min (μ 357 a) (9999 - μ 357 b)) = muchC (μ 357) (dbM μ) a b m := rfl
  simp only [em]
  have hmm : muchC (μ 357) (dbM μ) a b m ≤ μ 357 a ∧ muchC (μ 357) (dbM μ) a b m ≤ 9999 - μ 357 b ∧ 0 ≤ muchC (μ 357) (dbM μ) a b m := by unfold muchC; omega
  refine zif (fun c3 => neg (by decide) ((zit_f c1).trans ((zit_f (by omega)).trans (zit_t ?_)))) (fun c3 => ?_)
  · by_cases q : a = b
    · exact Or.inl q
    · rw [zit_f q] at c3
      exact Or.inr (by omega)
  have hab : a ≠ b := fun q => c3 (zit_t q)
  rw [zit_f hab] at c3 ⊢
  have e : payC (μ 357 152) (μ 357) (dbM μ) a b m = muchC (μ 357) (dbM μ) a b m := (zit_f c1).trans ((zit_f (by omega)).trans (zit_f (by omega)))
  rw [e]
  generalize muchC (μ 357) (dbM μ) a b m = w at *
  refine zCw.use (q_M_keeps (d := 1) (by decide) hu) (by omega) (fun q μ1 e1 => ?_)
  obtain ⟨a0, a1, a2, a3, a4⟩ := e1
  have k7 : μ1 357 = μ 357 := a4 357 (by decide)
  refine ⟨a0, ?_⟩
  have hfm : fM μ1 = fM μ := by unfold fM; rw [k7]
  have hdb : dbM μ1 = dbM μ := by unfold dbM fM; rw [k7]
  refine zCw.use (q_M_repays (d := 4) (by decide) (by rw [k7, hfm]; exact hD) (by omega) (by omega) (by omega) ⟨by rw [k7]; ((try simp only [zI_e]); (first | done | omega | skip)), by rw [k7, zit_f (by omega)]; ((try simp only [zI_e]); (first | done | omega | skip))⟩) (by omega) (fun q μ2 e2 => ?_)
  obtain ⟨b0, b1, b2, b3, b4⟩ := e2
  have hun : unM μ2 = unM μ1 := by unfold unM rwM; rw [b4 355 (by decide), b4 369 (by decide)]
  refine ⟨b0, rfl, fun h => absurd h (by omega), fun _ => ⟨rfl, ⟨by omega, hab⟩, by rw [hun, a1], by rw [b4 355 (by decide)]; exact a2, fun j hj => by rw [b4 355 (by decide)]; exact a3 j hj, by rw [b1, hdb], by rw [k7] at b2; exact b2, fun j hj => ?_, (a4.tr b4).mo (by simp)⟩⟩
  rw [b3 j hj, k7, zit_f (p := b = a) (by omega)]

