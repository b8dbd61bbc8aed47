/-! lendings: the reference's rows -/
noncomputable def pbR (μ : zMem) (b p : Int) : Nat → Int
  | 0 => μ 357 p
  | i + 1 => pbR μ b p i + zit (zbit b i) (zit (μ 372 i = p) (μ 373 i) (zit (μ 371 i = p) (-(μ 373 i)) 0)) 0
def okO (μ : zMem) : Prop := (0 ≤ μ 355 34 ∧ μ 355 34 ≤ 8) ∧ (∀ i : Int, 0 ≤ i → i < μ 355 34 → (0 ≤ μ 371 i ∧ μ 371 i ≤ 6) ∧ (0 ≤ μ 372 i ∧ μ 372 i ≤ 6) ∧ 1 ≤ μ 373 i ∧ μ 373 i ≤ 1000) ∧ okP (μ 357)
theorem pbR_in {μ : zMem} {b p : Int} (h : okO μ) (hp : 0 ≤ p ∧ p < 7) : ∀ i : Nat, (i : Int) ≤ μ 355 34 → -(1000 * (i : Int)) ≤ pbR μ b p i ∧ pbR μ b p i ≤ 9999 + 1000 * i
  | 0, _ => by
    have := h.2.2 p hp.1 hp.2
    unfold pbR
    omega
  | i + 1, hi => by
    have h1 := pbR_in (b := b) h hp i (by omega)
    have h2 := (h.2.1 i (by omega) (by omega)).2.2
    unfold pbR zit
    repeat' split
    all_goals omega
def y_M_purseBehind : zMt := (⟨"DebtDoorsModel", "purseBehind", "(II)I"⟩, prog_14_method_109_code, 5, some .int)
theorem d_M_purseBehind_0 : decode prog_14_method_109_code 0 = .ok (.aload_n 0, 1) := by decide +kernel
theorem d_M_purseBehind_1 : decode prog_14_method_109_code 1 = .ok (.getfield 24, 3) := by decide +kernel
theorem d_M_purseBehind_4 : decode prog_14_method_109_code 4 = .ok (.iconst 0, 1) := by decide +kernel
theorem d_M_purseBehind_5 : decode prog_14_method_109_code 5 = .ok (.iload_n 1, 1) := by decide +kernel
theorem d_M_purseBehind_6 : decode prog_14_method_109_code 6 = .ok (.iadd, 1) := by decide +kernel
theorem d_M_purseBehind_7 : decode prog_14_method_109_code 7 = .ok (.iaload, 1) := by decide +kernel
theorem d_M_purseBehind_8 : decode prog_14_method_109_code 8 = .ok (.istore_n 3, 1) := by decide +kernel
theorem d_M_purseBehind_9 : decode prog_14_method_109_code 9 = .ok (.iconst 0, 1) := by decide +kernel
theorem d_M_purseBehind_10 : decode prog_14_method_109_code 10 = .ok (.istore 4, 2) := by decide +kernel
theorem d_M_purseBehind_12 : decode prog_14_method_109_code 12 = .ok (.iload 4, 2) := by decide +kernel
theorem d_M_purseBehind_14 : decode prog_14_method_109_code 14 = .ok (.aload_n 0, 1) := by decide +kernel
theorem d_M_purseBehind_15 : decode prog_14_method_109_code 15 = .ok (.getfield 400, 3) := by decide +kernel
theorem d_M_purseBehind_18 : decode prog_14_method_109_code 18 = .ok (.if_icmp .ge 69, 3) := by decide +kernel
theorem d_M_purseBehind_21 : decode prog_14_method_109_code 21 = .ok (.iload_n 3, 1) := by decide +kernel
theorem d_M_purseBehind_22 : decode prog_14_method_109_code 22 = .ok (.iload_n 2, 1) := by decide +kernel
theorem d_M_purseBehind_23 : decode prog_14_method_109_code 23 = .ok (.iload 4, 2) := by decide +kernel
theorem d_M_purseBehind_25 : decode prog_14_method_109_code 25 = .ok (.invokestatic 406, 3) := by decide +kernel
theorem d_M_purseBehind_28 : decode prog_14_method_109_code 28 = .ok (.ifCond .ne 7, 3) := by decide +kernel
theorem d_M_purseBehind_31 : decode prog_14_method_109_code 31 = .ok (.iconst 0, 1) := by decide +kernel
theorem d_M_purseBehind_32 : decode prog_14_method_109_code 32 = .ok (.goto 47, 3) := by decide +kernel
theorem d_M_purseBehind_35 : decode prog_14_method_109_code 35 = .ok (.aload_n 0, 1) := by decide +kernel
theorem d_M_purseBehind_36 : decode prog_14_method_109_code 36 = .ok (.getfield 74, 3) := by decide +kernel
theorem d_M_purseBehind_39 : decode prog_14_method_109_code 39 = .ok (.iload 4, 2) := by decide +kernel
theorem d_M_purseBehind_41 : decode prog_14_method_109_code 41 = .ok (.iaload, 1) := by decide +kernel
theorem d_M_purseBehind_42 : decode prog_14_method_109_code 42 = .ok (.iload_n 1, 1) := by decide +kernel
theorem d_M_purseBehind_43 : decode prog_14_method_109_code 43 = .ok (.if_icmp .ne 13, 3) := by decide +kernel
theorem d_M_purseBehind_46 : decode prog_14_method_109_code 46 = .ok (.aload_n 0, 1) := by decide +kernel
theorem d_M_purseBehind_47 : decode prog_14_method_109_code 47 = .ok (.getfield 77, 3) := by decide +kernel
theorem d_M_purseBehind_50 : decode prog_14_method_109_code 50 = .ok (.iload 4, 2) := by decide +kernel
theorem d_M_purseBehind_52 : decode prog_14_method_109_code 52 = .ok (.iaload, 1) := by decide +kernel
theorem d_M_purseBehind_53 : decode prog_14_method_109_code 53 = .ok (.goto 26, 3) := by decide +kernel
theorem d_M_purseBehind_56 : decode prog_14_method_109_code 56 = .ok (.aload_n 0, 1) := by decide +kernel
theorem d_M_purseBehind_57 : decode prog_14_method_109_code 57 = .ok (.getfield 71, 3) := by decide +kernel
theorem d_M_purseBehind_60 : decode prog_14_method_109_code 60 = .ok (.iload 4, 2) := by decide +kernel
theorem d_M_purseBehind_62 : decode prog_14_method_109_code 62 = .ok (.iaload, 1) := by decide +kernel
theorem d_M_purseBehind_63 : decode prog_14_method_109_code 63 = .ok (.iload_n 1, 1) := by decide +kernel
theorem d_M_purseBehind_64 : decode prog_14_method_109_code 64 = .ok (.if_icmp .ne 14, 3) := by decide +kernel
theorem d_M_purseBehind_67 : decode prog_14_method_109_code 67 = .ok (.aload_n 0, 1) := by decide +kernel
theorem d_M_purseBehind_68 : decode prog_14_method_109_code 68 = .ok (.getfield 77, 3) := by decide +kernel
theorem d_M_purseBehind_71 : decode prog_14_method_109_code 71 = .ok (.iload 4, 2) := by decide +kernel
theorem d_M_purseBehind_73 : decode prog_14_method_109_code 73 = .ok (.iaload, 1) := by decide +kernel
theorem d_M_purseBehind_74 : decode prog_14_method_109_code 74 = .ok (.ineg, 1) := by decide +kernel
theorem d_M_purseBehind_75 : decode prog_14_method_109_code 75 = .ok (.goto 4, 3) := by decide +kernel
theorem d_M_purseBehind_78 : decode prog_14_method_109_code 78 = .ok (.iconst 0, 1) := by decide +kernel
theorem d_M_purseBehind_79 : decode prog_14_method_109_code 79 = .ok (.iadd, 1) := by decide +kernel
theorem d_M_purseBehind_80 : decode prog_14_method_109_code 80 = .ok (.istore_n 3, 1) := by decide +kernel
theorem d_M_purseBehind_81 : decode prog_14_method_109_code 81 = .ok (.iinc 4 1, 3) := by decide +kernel
theorem d_M_purseBehind_84 : decode prog_14_method_109_code 84 = .ok (.goto (-72), 3) := by decide +kernel
theorem d_M_purseBehind_87 : decode prog_14_method_109_code 87 = .ok (.iload_n 3, 1) := by decide +kernel
theorem d_M_purseBehind_88 : decode prog_14_method_109_code 88 = .ok (.ireturn, 1) := by decide +kernel
def w_M_purseBehind {d : Nat} (hd : 2 ≤ d) := (show SS ("DebtDoorsModel", prog_14_method_109_code, 5) (some .int) d 0 0 0 0 _ from (sS (p1 := 9) (sIn 3 (xE (rIa (rFr fl_M_24 nk_12_2 (rAn 0 d_M_purseBehind_0 rfl) d_M_purseBehind_1) (r2 o_add (rI d_M_purseBehind_4 rfl) (rIn 1 d_M_purseBehind_5 rfl) d_M_purseBehind_6) d_M_purseBehind_7)) d_M_purseBehind_8 rfl (by decide)) (sS (p1 := 87) (sS (p1 := 12) (sI (xE (rI d_M_purseBehind_9 rfl)) d_M_purseBehind_10 (by decide)) (sLp (ps := 81) (tt := 21) (pn := 87) (p1 := 0) (p2 := 0) (xC (rNot (rJ2 (tgt := 87) j_ge (rIl d_M_purseBehind_12) (rF 34 fl_M_400 nk_12_34 (rAn 0 d_M_purseBehind_14 rfl) d_M_purseBehind_15 rfl) d_M_purseBehind_18 (by decide)))) (sIn 3 (xE (r2 o_add (rIn 3 d_M_purseBehind_21 rfl) (rT2 (rNot (rJ1 (tgt := 35) k_ne (rS p_M_isIn (Nat.le_trans (Nat.le_of_ble_eq_true rfl) hd) ls_M_406 (rAi (rAi rA0 (rIn 2 d_M_purseBehind_22 rfl)) (rIl d_M_purseBehind_23)) (by decide) d_M_purseBehind_25) d_M_purseBehind_28 (by decide))) (rGoE (p2 := 79) (rI d_M_purseBehind_31 rfl) d_M_purseBehind_32 (by decide)) (rT2 (rNot (rJ2 (tgt := 56) j_ne (rIa (rFr fl_M_74 nk_12_30 (rAn 0 d_M_purseBehind_35 rfl) d_M_purseBehind_36) (rIl d_M_purseBehind_39) d_M_purseBehind_41) (rIn 1 d_M_purseBehind_42 rfl) d_M_purseBehind_43 (by decide))) (rGoE (p2 := 79) (rIa (rFr fl_M_77 nk_12_31 (rAn 0 d_M_purseBehind_46 rfl) d_M_purseBehind_47) (rIl d_M_purseBehind_50) d_M_purseBehind_52) d_M_purseBehind_53 (by decide)) (rT2 (rNot (rJ2 (tgt := 78) j_ne (rIa (rFr fl_M_71 nk_12_29 (rAn 0 d_M_purseBehind_56 rfl) d_M_purseBehind_57) (rIl d_M_purseBehind_60) d_M_purseBehind_62) (rIn 1 d_M_purseBehind_63 rfl) d_M_purseBehind_64 (by decide))) (rGoE (p2 := 79) (rNg (rIa (rFr fl_M_77 nk_12_31 (rAn 0 d_M_purseBehind_67 rfl) d_M_purseBehind_68) (rIl d_M_purseBehind_71) d_M_purseBehind_73) d_M_purseBehind_74) d_M_purseBehind_75 (by decide)) (rI d_M_purseBehind_78 rfl)))) d_M_purseBehind_79)) d_M_purseBehind_80 rfl (by decide)) (sGo (pn := 12) (sInc d_M_purseBehind_81 (by decide)) d_M_purseBehind_84 (by decide)))) (sRi (xE (rIn 3 d_M_purseBehind_87 rfl)) d_M_purseBehind_88 rfl))))
noncomputable def f_M_purseBehind : List zV → zMem → Int
  | [.inr (.inr (.inl q0)), .inl p, .inl b], μ => pbR μ b p (μ 355 34).toNat
  | _, _ => 0
def g_M_purseBehind : List zV → zMem → Prop
  | [.inr (.inr (.inl q0)), .inl p, .inl b], μ => q0 = 355 ∧ (okO μ ∧ (0 ≤ b ∧ b < 256) ∧ 0 ≤ p ∧ p < 7)
  | _, _ => False
theorem p_M_purseBehind : zPu y_M_purseBehind 2 f_M_purseBehind g_M_purseBehind := by
  intro as μ h
  unfold g_M_purseBehind at h
  split at h
  · next q0 p b =>
    obtain ⟨rfl, h⟩ := h
    refine zSp.ss [vr 355, vi p, vi b, vx 0, vx 0] rfl (w_M_purseBehind (Nat.le_refl _)) rfl rfl ?_
    have h8 := h.1.1
    (try simp only [zit_e, Bool.and_eq_true, Bool.or_eq_true, Bool.not_eq_true', Bool.and_eq_false_iff, Bool.or_eq_false_iff, Bool.not_eq_false', zbe, zdt, zdf, zb2_p, zbp_0, zbp_1, zbp_inj, zbp_01, Bool.true_eq_false, Bool.false_eq_true, true_and, and_true, Decidable.not_not, Classical.not_not, implies_true, List.nil_append, List.cons_append, List.append_assoc, Option.some.injEq, Sum.inl.injEq, zSw_c, zSw_n]); (try simp only [zit_e, Bool.and_eq_true, Bool.or_eq_true, Bool.not_eq_true', Bool.and_eq_false_iff, Bool.or_eq_false_iff, Bool.not_eq_false', zbe, zdt, zdf, zb2_p, zbp_0, zbp_1, zbp_inj, zbp_01, Bool.true_eq_false, Bool.false_eq_true, true_and, and_true, Decidable.not_not, Classical.not_not, implies_true, List.nil_append, List.cons_append, List.append_assoc, Option.some.injEq, Sum.inl.injEq, zSw_c, zSw_n, f_M_purseBehind, zc_355]); (try simp only [zi_cs, zi_c0, zii_cs, zii_c0, zl_cs, zl_c0, zll_cs, zll_c0, zr_cs, zr_c0, zrr_cs, zrr_c0, zxs_cs, zxs_c0, zxx_cs, zxx_c0, zfree_c0, zfree_c1, zfree_cs, zfree_cz, zlong_i, zlong_r, zlong_x, zset_0, zset_s, true_and, and_true, Option.some.injEq, Sum.inl.injEq, Sum.inr.injEq, zb2_p, zbp_0, zbp_1, zbp_inj, zbp_01, Nat.zero_add, Nat.reduceAdd, implies_true, List.nil_append, List.cons_append, List.append_assoc, Int.not_lt, Int.not_le, Decidable.not_not, Int.zero_add, Int.reduceLE, Int.reduceLT, Int.reduceEq, Int.reduceNe, Int.reduceAdd, Int.reduceSub, Int.reduceMul, Int.reduceNeg, Int.reduceToNat, Nat.reduceMul, Nat.reduceLT, Nat.reduceEqDiff, and_self, ite_true, ite_false, zx1, zx2, zRecv, List.length_cons, List.length_nil, ne_eq, not_true_eq_false, not_false_eq_true, true_or, or_true, or_false, false_or, and_false, false_and, zf01, zf10, reduceCtorEq, zSw_c, zSw_n, zm_r, zit_T, zit_F, false_implies, true_implies, f_M_purseBehind, zc_355])
    refine ⟨⟨zI_s (by omega) (by omega), by omega, by omega⟩, ?_⟩
    refine zLoop.up (μ 355 34).toNat (fun j ρ μ1 => ρ = [vr 355, vi p, vi b, vi (pbR μ b p j), vi j] ∧ μ = μ1) ⟨rfl, rfl⟩ ?_
    rintro j ρ μ1 hj ⟨rfl, rfl⟩
    (try simp only [zit_e, Bool.and_eq_true, Bool.or_eq_true, Bool.not_eq_true', Bool.and_eq_false_iff, Bool.or_eq_false_iff, Bool.not_eq_false', zbe, zdt, zdf, zb2_p, zbp_0, zbp_1, zbp_inj, zbp_01, Bool.true_eq_false, Bool.false_eq_true, true_and, and_true, Decidable.not_not, Classical.not_not, implies_true, List.nil_append, List.cons_append, List.append_assoc, Option.some.injEq, Sum.inl.injEq, zSw_c, zSw_n]); (try simp only [zit_e, Bool.and_eq_true, Bool.or_eq_true, Bool.not_eq_true', Bool.and_eq_false_iff, Bool.or_eq_false_iff, Bool.not_eq_false', zbe, zdt, zdf, zb2_p, zbp_0, zbp_1, zbp_inj, zbp_01, Bool.true_eq_false, Bool.false_eq_true, true_and, and_true, Decidable.not_not, Classical.not_not, implies_true, List.nil_append, List.cons_append, List.append_assoc, Option.some.injEq, Sum.inl.injEq, zSw_c, zSw_n, f_M_purseBehind, zc_355, f_M_isIn, g_M_isIn]); (try simp only [zi_cs, zi_c0, zii_cs, zii_c0, zl_cs, zl_c0, zll_cs, zll_c0, zr_cs, zr_c0, zrr_cs, zrr_c0, zxs_cs, zxs_c0, zxx_cs, zxx_c0, zfree_c0, zfree_c1, zfree_cs, zfree_cz, zlong_i, zlong_r, zlong_x, zset_0, zset_s, true_and, and_true, Option.some.injEq, Sum.inl.injEq, Sum.inr.injEq, zb2_p, zbp_0, zbp_1, zbp_inj, zbp_01, Nat.zero_add, Nat.reduceAdd, implies_true, List.nil_append, List.cons_append, List.append_assoc, Int.not_lt, Int.not_le, Decidable.not_not, Int.zero_add, Int.reduceLE, Int.reduceLT, Int.reduceEq, Int.reduceNe, Int.reduceAdd, Int.reduceSub, Int.reduceMul, Int.reduceNeg, Int.reduceToNat, Nat.reduceMul, Nat.reduceLT, Nat.reduceEqDiff, and_self, ite_true, ite_false, zx1, zx2, zRecv, List.length_cons, List.length_nil, ne_eq, not_true_eq_false, not_false_eq_true, true_or, or_true, or_false, false_or, and_false, false_and, zf01, zf10, reduceCtorEq, zSw_c, zSw_n, zm_r, zit_T, zit_F, false_implies, true_implies, f_M_purseBehind, zc_355, f_M_isIn, g_M_isIn])
    refine zif (fun c => ?_) (fun c => ?_)
    · have es : pbR μ b p (j + 1) = pbR μ b p j + zit (zbit b j) (zit (μ 372 j = p) (μ 373 j) (zit (μ 371 j = p) (-(μ 373 j)) 0)) 0 := rfl
      have i1 := pbR_in (b := b) h.1 h.2.2 (j + 1) (by omega)
      have i0 := pbR_in (b := b) h.1 h.2.2 j (by omega)
      have ik := h.1.2.1 j (by omega) c
      have ez : zit (¬ zbit b j) 0 (zit (μ 372 j = p) (μ 373 j) (zit (μ 371 j = p) (-(μ 373 j)) 0)) = zit (zbit b j) (zit (μ 372 j = p) (μ 373 j) (zit (μ 371 j = p) (-(μ 373 j)) 0)) 0 := by
        by_cases q : zbit b j
        · rw [zit_t q, zit_f (fun z => z q)]
        · rw [zit_f q, zit_t q]
      rw [ez, ← es]
      refine ⟨⟨⟨by omega, fun _ => ⟨by omega, fun _ => by omega, fun _ => ⟨by omega, fun _ => ⟨by omega, zI_s (by omega) (by omega)⟩⟩⟩⟩, zI_s (by omega) (by omega)⟩, zI_s (by omega) (by omega), (μ 355 34).toNat - (j + 1), by omega, j + 1, rfl, by omega, rfl⟩
    · rw [show j = (μ 355 34).toNat by omega]
  · exact h.elim
def lcR (μ : zMem) (b i : Int) : Prop := ¬ zbit b i ∧ μ 373 i ≤ pbR μ b (μ 371 i) (μ 355 34).toNat ∧ pbR μ b (μ 372 i) (μ 355 34).toNat + μ 373 i ≤ 9999
theorem m_M_purseBehind : Cond.instanceMethod y_M_purseBehind.1 ∈ zTb ∧ Cond.selects y_M_purseBehind.1.cls y_M_purseBehind.1 y_M_purseBehind.1 ∈ zTb ∧ Cond.initialized y_M_purseBehind.1.cls ∈ zTb ∧ Cond.code y_M_purseBehind.1 y_M_purseBehind.2.1 y_M_purseBehind.2.2.1 y_M_purseBehind.2.2.2 ∈ zTb ∧ (y_M_purseBehind.1.cls ≠ "java/lang/invoke/MethodHandle" ∧ y_M_purseBehind.1.cls ≠ "java/lang/invoke/VarHandle" ∧ (parseMethodDescriptor y_M_purseBehind.1.desc).map (fun d => d.parameters.length) = some 2) ∧ y_M_purseBehind.2.2.1 ≤ 20 :=
  ⟨(zTb_in 1931 (by decide +kernel) (by decide +kernel)), (List.mem_filter.mpr ⟨List.mem_append_left _ (by decide +kernel), by decide +kernel⟩), (zTb_in 151 (by decide +kernel) (by decide +kernel)), (zTb_in 1932 (by decide +kernel) (by decide +kernel)), by decide +kernel, by decide +kernel⟩
theorem lv_M_409 : zLv "DebtDoorsModel" 409 y_M_purseBehind 2 12 := ⟨⟨(zTb_in 1929 (by decide +kernel) (by decide +kernel)), m_M_purseBehind.1, m_M_purseBehind.2.1, m_M_purseBehind.2.2⟩, _, rfl, rfl⟩
def y_M_mayLend : zMt := (⟨"DebtDoorsModel", "mayLend", "(II)Z"⟩, prog_14_method_110_code, 3, some .boolean)
theorem d_M_mayLend_0 : decode prog_14_method_110_code 0 = .ok (.iload_n 1, 1) := by decide +kernel
theorem d_M_mayLend_1 : decode prog_14_method_110_code 1 = .ok (.iload_n 2, 1) := by decide +kernel
theorem d_M_mayLend_2 : decode prog_14_method_110_code 2 = .ok (.invokestatic 406, 3) := by decide +kernel
theorem d_M_mayLend_5 : decode prog_14_method_110_code 5 = .ok (.ifCond .ne 51, 3) := by decide +kernel
theorem d_M_mayLend_8 : decode prog_14_method_110_code 8 = .ok (.aload_n 0, 1) := by decide +kernel
theorem d_M_mayLend_9 : decode prog_14_method_110_code 9 = .ok (.aload_n 0, 1) := by decide +kernel
theorem d_M_mayLend_10 : decode prog_14_method_110_code 10 = .ok (.getfield 71, 3) := by decide +kernel
theorem d_M_mayLend_13 : decode prog_14_method_110_code 13 = .ok (.iload_n 2, 1) := by decide +kernel
theorem d_M_mayLend_14 : decode prog_14_method_110_code 14 = .ok (.iaload, 1) := by decide +kernel
theorem d_M_mayLend_15 : decode prog_14_method_110_code 15 = .ok (.iload_n 1, 1) := by decide +kernel
theorem d_M_mayLend_16 : decode prog_14_method_110_code 16 = .ok (.invokevirtual 409, 3) := by decide +kernel
theorem d_M_mayLend_19 : decode prog_14_method_110_code 19 = .ok (.aload_n 0, 1) := by decide +kernel
theorem d_M_mayLend_20 : decode prog_14_method_110_code 20 = .ok (.getfield 77, 3) := by decide +kernel
theorem d_M_mayLend_23 : decode prog_14_method_110_code 23 = .ok (.iload_n 2, 1) := by decide +kernel
theorem d_M_mayLend_24 : decode prog_14_method_110_code 24 = .ok (.iaload, 1) := by decide +kernel
theorem d_M_mayLend_25 : decode prog_14_method_110_code 25 = .ok (.if_icmp .lt 31, 3) := by decide +kernel
theorem d_M_mayLend_28 : decode prog_14_method_110_code 28 = .ok (.aload_n 0, 1) := by decide +kernel
theorem d_M_mayLend_29 : decode prog_14_method_110_code 29 = .ok (.aload_n 0, 1) := by decide +kernel
theorem d_M_mayLend_30 : decode prog_14_method_110_code 30 = .ok (.getfield 74, 3) := by decide +kernel
theorem d_M_mayLend_33 : decode prog_14_method_110_code 33 = .ok (.iload_n 2, 1) := by decide +kernel
theorem d_M_mayLend_34 : decode prog_14_method_110_code 34 = .ok (.iaload, 1) := by decide +kernel
theorem d_M_mayLend_35 : decode prog_14_method_110_code 35 = .ok (.iload_n 1, 1) := by decide +kernel
theorem d_M_mayLend_36 : decode prog_14_method_110_code 36 = .ok (.invokevirtual 409, 3) := by decide +kernel
theorem d_M_mayLend_39 : decode prog_14_method_110_code 39 = .ok (.aload_n 0, 1) := by decide +kernel
theorem d_M_mayLend_40 : decode prog_14_method_110_code 40 = .ok (.getfield 77, 3) := by decide +kernel
theorem d_M_mayLend_43 : decode prog_14_method_110_code 43 = .ok (.iload_n 2, 1) := by decide +kernel
theorem d_M_mayLend_44 : decode prog_14_method_110_code 44 = .ok (.iaload, 1) := by decide +kernel
theorem d_M_mayLend_45 : decode prog_14_method_110_code 45 = .ok (.iadd, 1) := by decide +kernel
theorem d_M_mayLend_46 : decode prog_14_method_110_code 46 = .ok (.sipush 9999, 3) := by decide +kernel
theorem d_M_mayLend_49 : decode prog_14_method_110_code 49 = .ok (.if_icmp .gt 7, 3) := by decide +kernel
theorem d_M_mayLend_52 : decode prog_14_method_110_code 52 = .ok (.iconst 1, 1) := by decide +kernel
theorem d_M_mayLend_53 : decode prog_14_method_110_code 53 = .ok (.goto 4, 3) := by decide +kernel
theorem d_M_mayLend_56 : decode prog_14_method_110_code 56 = .ok (.iconst 0, 1) := by decide +kernel
theorem d_M_mayLend_57 : decode prog_14_method_110_code 57 = .ok (.ireturn, 1) := by decide +kernel
def w_M_mayLend {d : Nat} (hd : 3 ≤ d) := (show SS ("DebtDoorsModel", prog_14_method_110_code, 3) (some .boolean) d 0 0 0 0 _ from (sRz (xE (rTb (rAnd (mm := 28) (rAnd (mm := 8) (rNot (rJ1 (tgt := 56) k_ne (rS p_M_isIn (Nat.le_trans (Nat.le_of_ble_eq_true rfl) hd) ls_M_406 (rAi (rAi rA0 (rIn 1 d_M_mayLend_0 rfl)) (rIn 2 d_M_mayLend_1 rfl)) (by decide) d_M_mayLend_2) d_M_mayLend_5 (by decide))) (rNot (rJ2 (tgt := 56) j_lt (rV p_M_purseBehind (Nat.le_trans (Nat.le_of_ble_eq_true rfl) hd) lv_M_409 (rAi (rAi (rAr rA0 (rAn 0 d_M_mayLend_8 rfl)) (rIa (rFr fl_M_71 nk_12_29 (rAn 0 d_M_mayLend_9 rfl) d_M_mayLend_10) (rIn 2 d_M_mayLend_13 rfl) d_M_mayLend_14)) (rIn 1 d_M_mayLend_15 rfl)) (by decide) d_M_mayLend_16) (rIa (rFr fl_M_77 nk_12_31 (rAn 0 d_M_mayLend_19 rfl) d_M_mayLend_20) (rIn 2 d_M_mayLend_23 rfl) d_M_mayLend_24) d_M_mayLend_25 (by decide)))) (rNot (rJ2 (tgt := 56) j_gt (r2 o_add (rV p_M_purseBehind (Nat.le_trans (Nat.le_of_ble_eq_true rfl) hd) lv_M_409 (rAi (rAi (rAr rA0 (rAn 0 d_M_mayLend_28 rfl)) (rIa (rFr fl_M_74 nk_12_30 (rAn 0 d_M_mayLend_29 rfl) d_M_mayLend_30) (rIn 2 d_M_mayLend_33 rfl) d_M_mayLend_34)) (rIn 1 d_M_mayLend_35 rfl)) (by decide) d_M_mayLend_36) (rIa (rFr fl_M_77 nk_12_31 (rAn 0 d_M_mayLend_39 rfl) d_M_mayLend_40) (rIn 2 d_M_mayLend_43 rfl) d_M_mayLend_44) d_M_mayLend_45) (rSi d_M_mayLend_46 rfl) d_M_mayLend_49 (by decide)))) (rGoE (p2 := 57) (rI d_M_mayLend_52 rfl) d_M_mayLend_53 (by decide)) (rI d_M_mayLend_56 rfl))) d_M_mayLend_57 rfl))
noncomputable def f_M_mayLend : List zV → zMem → Int
  | [.inr (.inr (.inl q0)), .inl b, .inl i], μ => zbp (lcR μ b i)
  | _, _ => 0
def g_M_mayLend : List zV → zMem → Prop
  | [.inr (.inr (.inl q0)), .inl b, .inl i], μ => q0 = 355 ∧ (okO μ ∧ (0 ≤ b ∧ b < 256) ∧ 0 ≤ i ∧ i < μ 355 34)
  | _, _ => False
theorem p_M_mayLend : zPu y_M_mayLend 3 f_M_mayLend g_M_mayLend := by
  intro as μ h
  unfold g_M_mayLend at h
  split at h
  · next q0 b i =>
    obtain ⟨rfl, h⟩ := h
    refine zSp.ss [vr 355, vi b, vi i] rfl (w_M_mayLend (Nat.le_refl _)) rfl rfl ?_
    have h8 := h.1.1
    have ik := h.1.2.1 i h.2.2.1 h.2.2.2
    have i1 := pbR_in (b := b) h.1 (p := μ 372 i) (by omega) (μ 355 34).toNat (by omega)
    (try simp only [zit_e, Bool.and_eq_true, Bool.or_eq_true, Bool.not_eq_true', Bool.and_eq_false_iff, Bool.or_eq_false_iff, Bool.not_eq_false', zbe, zdt, zdf, zb2_p, zbp_0, zbp_1, zbp_inj, zbp_01, Bool.true_eq_false, Bool.false_eq_true, true_and, and_true, Decidable.not_not, Classical.not_not, implies_true, List.nil_append, List.cons_append, List.append_assoc, Option.some.injEq, Sum.inl.injEq, zSw_c, zSw_n]); (try simp only [zit_e, Bool.and_eq_true, Bool.or_eq_true, Bool.not_eq_true', Bool.and_eq_false_iff, Bool.or_eq_false_iff, Bool.not_eq_false', zbe, zdt, zdf, zb2_p, zbp_0, zbp_1, zbp_inj, zbp_01, Bool.true_eq_false, Bool.false_eq_true, true_and, and_true, Decidable.not_not, Classical.not_not, implies_true, List.nil_append, List.cons_append, List.append_assoc, Option.some.injEq, Sum.inl.injEq, zSw_c, zSw_n, f_M_mayLend, zc_355, f_M_purseBehind, g_M_purseBehind, f_M_isIn, g_M_isIn]); (try simp only [zi_cs, zi_c0, zii_cs, zii_c0, zl_cs, zl_c0, zll_cs, zll_c0, zr_cs, zr_c0, zrr_cs, zrr_c0, zxs_cs, zxs_c0, zxx_cs, zxx_c0, zfree_c0, zfree_c1, zfree_cs, zfree_cz, zlong_i, zlong_r, zlong_x, zset_0, zset_s, true_and, and_true, Option.some.injEq, Sum.inl.injEq, Sum.inr.injEq, zb2_p, zbp_0, zbp_1, zbp_inj, zbp_01, Nat.zero_add, Nat.reduceAdd, implies_true, List.nil_append, List.cons_append, List.append_assoc, Int.not_lt, Int.not_le, Decidable.not_not, Int.zero_add, Int.reduceLE, Int.reduceLT, Int.reduceEq, Int.reduceNe, Int.reduceAdd, Int.reduceSub, Int.reduceMul, Int.reduceNeg, Int.reduceToNat, Nat.reduceMul, Nat.reduceLT, Nat.reduceEqDiff, and_self, ite_true, ite_false, zx1, zx2, zRecv, List.length_cons, List.length_nil, ne_eq, not_true_eq_false, not_false_eq_true, true_or, or_true, or_false, false_or, and_false, false_and, zf01, zf10, reduceCtorEq, zSw_c, zSw_n, zm_r, zit_T, zit_F, false_implies, true_implies, f_M_mayLend, zc_355, f_M_purseBehind, g_M_purseBehind, f_M_isIn, g_M_isIn])
    exact ⟨⟨⟨by omega, fun _ => ⟨⟨by omega, h.1, h.2.1, by omega, by omega⟩, by omega⟩⟩, fun _ => ⟨⟨by omega, h.1, h.2.1, by omega, by omega⟩, by omega, zI_s (by omega) (by omega)⟩⟩, (Classical.em _).symm, and_assoc⟩
  · exact h.elim
theorem pbR_S {μ : zMem} {L : List D4} {pu : Int → Int} (hA : LnM L μ) (hL : ∀ x, x ∈ L → okL4 x) {b p : Int} (hp : μ 357 p = pu p) : ∀ i : Nat, i ≤ L.length → pbR μ b p i = pbS L pu b p i
  | 0, _ => hp
  | i + 1, hi => by
    have e := hA i (by omega)
    have o := hL _ (List.mem_of_getElem? (dfV_m (V := L) (k := i) (by omega) (by omega)))
    rw [pbR, pbS, pbR_S hA hL hp i (by omega), e.1.1, e.1.2, e.2.1]
    congr 2
    have := o.2.2.1
    unfold zit
    repeat' split
    all_goals first
      | rfl
      | omega
theorem okO_L {μ : zMem} {L : List D4} (hA : LnM L μ) (h5 : μ 355 34 = (L.length : Int)) (h8 : L.length ≤ 8) (hL : ∀ x, x ∈ L → okL4 x) (hP : okP (μ 357)) : okO μ := by
  refine ⟨by omega, fun i x y => ?_, hP⟩
  have e := hA i.toNat (by omega)
  have o := hL _ (List.mem_of_getElem? (dfV_m (V := L) (k := i) x (by omega)))
  rw [show ((i.toNat : Nat) : Int) = i by omega] at e
  rw [e.1.1, e.1.2, e.2.1]
  exact ⟨o.1, o.2.1, o.2.2.2⟩
theorem lcR_S {μ : zMem} {L : List D4} {pu : Int → Int} (hA : LnM L μ) (h5 : μ 355 34 = (L.length : Int)) (hL : ∀ x, x ∈ L → okL4 x) (hp : ∀ p : Int, 0 ≤ p → p < 7 → μ 357 p = pu p) {b : Int} {i : Nat} (hi : i < L.length) : lcR μ b i ↔ lcS L pu b i := by
  have e := hA i hi
  have o := hL _ (List.mem_of_getElem? (dfV_m (V := L) (k := i) (by omega) (by omega)))
  unfold lcR lcS
  rw [h5, Int.toNat_natCast, e.1.1, e.1.2, e.2.1, pbR_S hA hL (hp _ o.1.1 (by have := o.1.2; omega)) _ (Nat.le_refl _), pbR_S hA hL (hp _ o.2.1.1 (by have := o.2.1.2; omega)) _ (Nat.le_refl _)]

