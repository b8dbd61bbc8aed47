/-! the reference is told a law -/
theorem fp_12_8 : zFp 12 8 1 := ⟨_, rfl, rfl, rfl, by decide⟩
theorem m_M_reads : Cond.instanceMethod y_M_reads.1 ∈ zTb ∧ Cond.selects y_M_reads.1.cls y_M_reads.1 y_M_reads.1 ∈ zTb ∧ Cond.initialized y_M_reads.1.cls ∈ zTb ∧ Cond.code y_M_reads.1 y_M_reads.2.1 y_M_reads.2.2.1 y_M_reads.2.2.2 ∈ zTb ∧ (y_M_reads.1.cls ≠ "java/lang/invoke/MethodHandle" ∧ y_M_reads.1.cls ≠ "java/lang/invoke/VarHandle" ∧ (parseMethodDescriptor y_M_reads.1.desc).map (fun d => d.parameters.length) = some 0) ∧ y_M_reads.2.2.1 ≤ 20 :=
  ⟨(zTb_in 1694 (by decide +kernel) (by decide +kernel)), (List.mem_filter.mpr ⟨List.mem_append_left _ (by decide +kernel), by decide +kernel⟩), (zTb_in 151 (by decide +kernel) (by decide +kernel)), (zTb_in 1695 (by decide +kernel) (by decide +kernel)), by decide +kernel, by decide +kernel⟩
theorem lv_M_271 : zLv "DebtDoorsModel" 271 y_M_reads 0 12 := ⟨⟨(zTb_in 1692 (by decide +kernel) (by decide +kernel)), m_M_reads.1, m_M_reads.2.1, m_M_reads.2.2⟩, _, rfl, rfl⟩
theorem m_M_lays : Cond.instanceMethod y_M_lays.1 ∈ zTb ∧ Cond.selects y_M_lays.1.cls y_M_lays.1 y_M_lays.1 ∈ zTb ∧ Cond.initialized y_M_lays.1.cls ∈ zTb ∧ Cond.code y_M_lays.1 y_M_lays.2.1 y_M_lays.2.2.1 y_M_lays.2.2.2 ∈ zTb ∧ (y_M_lays.1.cls ≠ "java/lang/invoke/MethodHandle" ∧ y_M_lays.1.cls ≠ "java/lang/invoke/VarHandle" ∧ (parseMethodDescriptor y_M_lays.1.desc).map (fun d => d.parameters.length) = some 1) ∧ y_M_lays.2.2.1 ≤ 20 :=
  ⟨(zTb_in 1777 (by decide +kernel) (by decide +kernel)), (List.mem_filter.mpr ⟨List.mem_append_left _ (by decide +kernel), by decide +kernel⟩), (zTb_in 151 (by decide +kernel) (by decide +kernel)), (zTb_in 1778 (by decide +kernel) (by decide +kernel)), by decide +kernel, by decide +kernel⟩
theorem lv_M_274 : zLv "DebtDoorsModel" 274 y_M_lays 1 12 := ⟨⟨(zTb_in 1775 (by decide +kernel) (by decide +kernel)), m_M_lays.1, m_M_lays.2.1, m_M_lays.2.2⟩, _, rfl, rfl⟩
def y_M_law : zMt := (⟨"DebtDoorsModel", "law", "()I"⟩, prog_14_method_60_code, 1, some .int)
theorem d_M_law_0 : decode prog_14_method_60_code 0 = .ok (.aload_n 0, 1) := by decide +kernel
theorem d_M_law_1 : decode prog_14_method_60_code 1 = .ok (.getfield 24, 3) := by decide +kernel
theorem d_M_law_4 : decode prog_14_method_60_code 4 = .ok (.sipush 155, 3) := by decide +kernel
theorem d_M_law_7 : decode prog_14_method_60_code 7 = .ok (.iaload, 1) := by decide +kernel
theorem d_M_law_8 : decode prog_14_method_60_code 8 = .ok (.bipush 6, 2) := by decide +kernel
theorem d_M_law_10 : decode prog_14_method_60_code 10 = .ok (.if_icmp .ne 15, 3) := by decide +kernel
theorem d_M_law_13 : decode prog_14_method_60_code 13 = .ok (.aload_n 0, 1) := by decide +kernel
theorem d_M_law_14 : decode prog_14_method_60_code 14 = .ok (.iconst 0, 1) := by decide +kernel
theorem d_M_law_15 : decode prog_14_method_60_code 15 = .ok (.putfield 181, 3) := by decide +kernel
theorem d_M_law_18 : decode prog_14_method_60_code 18 = .ok (.aload_n 0, 1) := by decide +kernel
theorem d_M_law_19 : decode prog_14_method_60_code 19 = .ok (.bipush (-5), 2) := by decide +kernel
theorem d_M_law_21 : decode prog_14_method_60_code 21 = .ok (.invokevirtual 127, 3) := by decide +kernel
theorem d_M_law_24 : decode prog_14_method_60_code 24 = .ok (.ireturn, 1) := by decide +kernel
theorem d_M_law_25 : decode prog_14_method_60_code 25 = .ok (.aload_n 0, 1) := by decide +kernel
theorem d_M_law_26 : decode prog_14_method_60_code 26 = .ok (.iconst 0, 1) := by decide +kernel
theorem d_M_law_27 : decode prog_14_method_60_code 27 = .ok (.putfield 219, 3) := by decide +kernel
theorem d_M_law_30 : decode prog_14_method_60_code 30 = .ok (.aload_n 0, 1) := by decide +kernel
theorem d_M_law_31 : decode prog_14_method_60_code 31 = .ok (.invokevirtual 271, 3) := by decide +kernel
theorem d_M_law_34 : decode prog_14_method_60_code 34 = .ok (.ifCond .ne 10, 3) := by decide +kernel
theorem d_M_law_37 : decode prog_14_method_60_code 37 = .ok (.aload_n 0, 1) := by decide +kernel
theorem d_M_law_38 : decode prog_14_method_60_code 38 = .ok (.bipush (-6), 2) := by decide +kernel
theorem d_M_law_40 : decode prog_14_method_60_code 40 = .ok (.invokevirtual 127, 3) := by decide +kernel
theorem d_M_law_43 : decode prog_14_method_60_code 43 = .ok (.ireturn, 1) := by decide +kernel
theorem d_M_law_44 : decode prog_14_method_60_code 44 = .ok (.aload_n 0, 1) := by decide +kernel
theorem d_M_law_45 : decode prog_14_method_60_code 45 = .ok (.aload_n 0, 1) := by decide +kernel
theorem d_M_law_46 : decode prog_14_method_60_code 46 = .ok (.getfield 24, 3) := by decide +kernel
theorem d_M_law_49 : decode prog_14_method_60_code 49 = .ok (.sipush 155, 3) := by decide +kernel
theorem d_M_law_52 : decode prog_14_method_60_code 52 = .ok (.iaload, 1) := by decide +kernel
theorem d_M_law_53 : decode prog_14_method_60_code 53 = .ok (.invokevirtual 274, 3) := by decide +kernel
theorem d_M_law_56 : decode prog_14_method_60_code 56 = .ok (.aload_n 0, 1) := by decide +kernel
theorem d_M_law_57 : decode prog_14_method_60_code 57 = .ok (.getfield 24, 3) := by decide +kernel
theorem d_M_law_60 : decode prog_14_method_60_code 60 = .ok (.sipush 155, 3) := by decide +kernel
theorem d_M_law_63 : decode prog_14_method_60_code 63 = .ok (.dup2, 1) := by decide +kernel
theorem d_M_law_64 : decode prog_14_method_60_code 64 = .ok (.iaload, 1) := by decide +kernel
theorem d_M_law_65 : decode prog_14_method_60_code 65 = .ok (.iconst 1, 1) := by decide +kernel
theorem d_M_law_66 : decode prog_14_method_60_code 66 = .ok (.iadd, 1) := by decide +kernel
theorem d_M_law_67 : decode prog_14_method_60_code 67 = .ok (.iastore, 1) := by decide +kernel
theorem d_M_law_68 : decode prog_14_method_60_code 68 = .ok (.aload_n 0, 1) := by decide +kernel
theorem d_M_law_69 : decode prog_14_method_60_code 69 = .ok (.aload_n 0, 1) := by decide +kernel
theorem d_M_law_70 : decode prog_14_method_60_code 70 = .ok (.getfield 24, 3) := by decide +kernel
theorem d_M_law_73 : decode prog_14_method_60_code 73 = .ok (.sipush 155, 3) := by decide +kernel
theorem d_M_law_76 : decode prog_14_method_60_code 76 = .ok (.iaload, 1) := by decide +kernel
theorem d_M_law_77 : decode prog_14_method_60_code 77 = .ok (.iconst 1, 1) := by decide +kernel
theorem d_M_law_78 : decode prog_14_method_60_code 78 = .ok (.isub, 1) := by decide +kernel
theorem d_M_law_79 : decode prog_14_method_60_code 79 = .ok (.invokevirtual 14, 3) := by decide +kernel
theorem d_M_law_82 : decode prog_14_method_60_code 82 = .ok (.ireturn, 1) := by decide +kernel
def w_M_law {d : Nat} (hd : 1 ≤ d) := (show SS ("DebtDoorsModel", prog_14_method_60_code, 1) (some .int) d 0 0 0 0 _ from (sS (p1 := 25) (sIf (pn := 25) (tt := 13) (xC (rNot (rJ2 (tgt := 25) j_ne (rIa (rFr fl_M_24 nk_12_2 (rAn 0 d_M_law_0 rfl) d_M_law_1) (rSi d_M_law_4 rfl) d_M_law_7) (rB d_M_law_8 rfl) d_M_law_10 (by decide)))) (sS (p1 := 18) (sP 11 fl_M_181 fp_12_11 nk_12_11 (rAn 0 d_M_law_13 rfl) (xE (rI d_M_law_14 rfl)) d_M_law_15 rfl) (sRi (xV lv_M_127 (xA (rAi (rAr rA0 (rAn 0 d_M_law_18 rfl)) (rB d_M_law_19 rfl))) (by decide) d_M_law_21) d_M_law_24 rfl))) (sS (p1 := 30) (sP 8 fl_M_219 fp_12_8 nk_12_8 (rAn 0 d_M_law_25 rfl) (xE (rI d_M_law_26 rfl)) d_M_law_27 rfl) (sS (p1 := 44) (sIf (pn := 44) (tt := 37) (xNot (xJ1 (tgt := 44) k_ne (xV lv_M_271 (xA (rAr rA0 (rAn 0 d_M_law_30 rfl))) (by decide) d_M_law_31) d_M_law_34 (by decide))) (sRi (xV lv_M_127 (xA (rAi (rAr rA0 (rAn 0 d_M_law_37 rfl)) (rB d_M_law_38 rfl))) (by decide) d_M_law_40) d_M_law_43 rfl)) (sS (p1 := 56) (sV (xVv lv_M_274 (xA (rAi (rAr rA0 (rAn 0 d_M_law_44 rfl)) (rIa (rFr fl_M_24 nk_12_2 (rAn 0 d_M_law_45 rfl) d_M_law_46) (rSi d_M_law_49 rfl) d_M_law_52))) (by decide) d_M_law_53)) (sS (p1 := 68) (sAo o_add (rFr fl_M_24 nk_12_2 (rAn 0 d_M_law_56 rfl) d_M_law_57) (rSi d_M_law_60 rfl) d_M_law_63 d_M_law_64 (rI d_M_law_65 rfl) d_M_law_66 d_M_law_67) (sRi (xV lv_M_14 (xA (rAi (rAr rA0 (rAn 0 d_M_law_68 rfl)) (r2 o_sub (rIa (rFr fl_M_24 nk_12_2 (rAn 0 d_M_law_69 rfl) d_M_law_70) (rSi d_M_law_73 rfl) d_M_law_76) (rI d_M_law_77 rfl) d_M_law_78))) (by decide) d_M_law_79) d_M_law_82 rfl)))))))
theorem q_M_law {d : Nat} (hd : 52 ≤ d) {μ : zMem} {B : Int → Int} {n : Nat} (hB : okB B n) (hn : μ 355 11 = (n : Int)) (hT : ∀ i : Nat, i < n → μ 362 i = sgn (B i)) (hw : ∀ i : Int, 0 ≤ i → i < 147 → μ 361 i = wTab i) (ht : 0 ≤ μ 357 155 ∧ μ 357 155 ≤ 6) (hr : (0 ≤ μ 356 5 ∧ μ 356 5 ≤ 1000000) ∧ 0 ≤ μ 356 6 ∧ μ 356 6 ≤ 1000000) : zSp d 0 0 y_M_law zT0 [vr 355] μ zT0 (fun r μ' => (μ 357 155 = 6 → r = some (vi (-5)) ∧ μ' = zm (zm (zm μ 355 11 0) 355 0 (-5)) 356 5 (μ 356 5 + 1)) ∧ (μ 357 155 ≠ 6 → (∀ t, pCls (cT B n) (fun t => decide (n ≤ ps B n t)) (pcO false (cT B n) (vT B n)) 12 0 0 85 = (t, none) → r = some (vi (-6)) ∧ μ' 355 0 = -6 ∧ μ' 355 11 = 0 ∧ μ' 355 12 = (ps B n t : Int) ∧ μ' 356 = (zm μ 356 6 (μ 356 6 + 1)) 356 ∧ (∀ j : Int, j ≠ 0 → j ≠ 8 → j ≠ 11 → j ≠ 12 → j ≠ 16 → j ≠ 17 → j ≠ 18 → j ≠ 19 → μ' 355 j = μ 355 j) ∧ zfc [355, 356, 364, 365, 366] μ μ') ∧ (∀ t a, pCls (cT B n) (fun t => decide (n ≤ ps B n t)) (pcO false (cT B n) (vT B n)) 12 0 0 85 = (t, some a) → r = some (vi (μ 357 155)) ∧ μ' 355 0 = 0 ∧ μ' 355 11 = 0 ∧ μ' 355 12 = -1 ∧ (∃ N : Nat, okK (cT B n, vT B n, fun u => (ps B n u : Int), N) ∧ (∀ u, u < N → ps B n u < n) ∧ ps B n N = n ∧ LwM (μ' 357) (μ 357 155) (cT B n, vT B n, fun u => (ps B n u : Int), N)) ∧ μ' 357 155 = μ 357 155 + 1 ∧ (∀ i : Int, i ≠ 155 → i ≠ 157 + μ 357 155 → ¬ (164 + 400 * μ 357 155 ≤ i ∧ i < 564 + 400 * μ 357 155) → ¬ (2964 + 400 * μ 357 155 ≤ i ∧ i < 3364 + 400 * μ 357 155) → μ' 357 i = μ 357 i) ∧ (∀ j : Int, j ≠ 0 → j ≠ 8 → j ≠ 11 → j ≠ 12 → j ≠ 16 → j ≠ 17 → j ≠ 18 → j ≠ 19 → μ' 355 j = μ 355 j) ∧ zfc [355, 357, 364, 365, 366] μ μ'))) := by
  refine zSp.ss [vr 355] rfl (w_M_law (Nat.le_trans (by decide) hd)) rfl rfl ?_
  (try simp only [zit_e, Bool.and_eq_true, Bool.or_eq_true, Bool.not_eq_true', Bool.and_eq_false_iff, Bool.or_eq_false_iff, Bool.not_eq_false', zbe, zdt, zdf, zb2_p, zbp_0, zbp_1, zbp_inj, zbp_01, Bool.true_eq_false, Bool.false_eq_true, true_and, and_true, Decidable.not_not, Classical.not_not, implies_true, List.nil_append, List.cons_append, List.append_assoc, Option.some.injEq, Sum.inl.injEq, zSw_c, zSw_n]); (try simp only [zit_e, Bool.and_eq_true, Bool.or_eq_true, Bool.not_eq_true', Bool.and_eq_false_iff, Bool.or_eq_false_iff, Bool.not_eq_false', zbe, zdt, zdf, zb2_p, zbp_0, zbp_1, zbp_inj, zbp_01, Bool.true_eq_false, Bool.false_eq_true, true_and, and_true, Decidable.not_not, Classical.not_not, implies_true, List.nil_append, List.cons_append, List.append_assoc, Option.some.injEq, Sum.inl.injEq, zSw_c, zSw_n, zc_355]); (try simp only [zi_cs, zi_c0, zii_cs, zii_c0, zl_cs, zl_c0, zll_cs, zll_c0, zr_cs, zr_c0, zrr_cs, zrr_c0, zxs_cs, zxs_c0, zxx_cs, zxx_c0, zfree_c0, zfree_c1, zfree_cs, zfree_cz, zlong_i, zlong_r, zlong_x, zset_0, zset_s, true_and, and_true, Option.some.injEq, Sum.inl.injEq, Sum.inr.injEq, zb2_p, zbp_0, zbp_1, zbp_inj, zbp_01, Nat.zero_add, Nat.reduceAdd, implies_true, List.nil_append, List.cons_append, List.append_assoc, Int.not_lt, Int.not_le, Decidable.not_not, Int.zero_add, Int.reduceLE, Int.reduceLT, Int.reduceEq, Int.reduceNe, Int.reduceAdd, Int.reduceSub, Int.reduceMul, Int.reduceNeg, Int.reduceToNat, Nat.reduceMul, Nat.reduceLT, Nat.reduceEqDiff, and_self, ite_true, ite_false, zx1, zx2, zRecv, List.length_cons, List.length_nil, ne_eq, not_true_eq_false, not_false_eq_true, true_or, or_true, or_false, false_or, and_false, false_and, zf01, zf10, reduceCtorEq, zSw_c, zSw_n, zm_r, zit_T, zit_F, false_implies, true_implies, zc_355])
  refine zif (fun c => ?_) (fun c => ?_)
  · refine zCw.use (q_M_refuses (d := 1) (by decide) (by decide) (by rw [zm_off 356 (by decide)]; exact hr.1)) (by omega) (fun q μ1 e => ?_)
    obtain ⟨rfl, rfl⟩ := e
    refine ⟨_, rfl, fun _ => ⟨rfl, ?_⟩, fun q => absurd c q⟩
    rw [zm_off 356 (by decide)]
    rfl
  · refine zCw.use (q_M_reads (d := 50) (Nat.le_refl _) (o := false) hB (by rw [zm_j (by decide)]; exact hn) zm_s (fun i hi => by rw [zm_off 362 (by decide)]; exact hT i hi) (fun i a b => by rw [zm_off 361 (by decide)]; exact hw i a b)) (by omega) (fun q μ1 e => ?_)
    obtain ⟨e1, e2, e3, ⟨N, e4, e5, e6, e7⟩, e8, e9⟩ := e
    generalize pCls (cT B n) (fun t => decide (n ≤ ps B n t)) (pcO false (cT B n) (vT B n)) 12 0 0 85 = R at *
    have k356 : μ1 356 = μ 356 := (e9 356 (by decide)).trans (zm_off 356 (by decide))
    have k357 : μ1 357 = μ 357 := (e9 357 (by decide)).trans (zm_off 357 (by decide))
    have k355 : ∀ j : Int, j ≠ 8 → j ≠ 11 → j ≠ 12 → j ≠ 16 → j ≠ 17 → j ≠ 18 → j ≠ 19 → μ1 355 j = μ 355 j := fun j a0 a1 a2 a3 a4 a5 a6 => by rw [e8 j a1 a2 a3 a4 a5 a6, zm_j a0]
    have f1 : zfc [355, 364, 365, 366] μ μ1 := (((zfc.rf (cs := [355, 364, 365, 366])).zm (by decide)).tr e9).mo (b := [355, 364, 365, 366]) (by simp)
    rcases R with ⟨t, _ | a⟩
    · obtain ⟨rfl, f12⟩ := e1 t rfl
      refine ⟨_, rfl, ?_⟩
      rw [if_pos rfl]
      refine zCw.use (q_M_refuses (d := 1) (by decide) (by decide) (by rw [k356]; exact hr.2)) (by omega) (fun q μ2 e => ?_)
      obtain ⟨rfl, rfl⟩ := e
      refine ⟨_, rfl, fun q => absurd q c, fun _ => ⟨fun t1 q => ?_, fun t1 a q => (by cases q)⟩⟩
      cases q
      refine ⟨rfl, ?_, ?_, ?_, ?_, fun j b0 b1 b2 b3 b4 b5 b6 b7 => ?_, ((f1.mo (b := [355, 356, 364, 365, 366]) (by simp)).zm (by decide)).zm (by decide)⟩
      · rw [zm_off 355 (by decide), zm_s]
      · rw [zm_off 355 (by decide), zm_j (by decide), e3]
      · rw [zm_off 355 (by decide), zm_j (by decide), f12]
      · funext i
        rw [k356]
        simp only [zm_r, zit_T, zit_F, Nat.reduceEqDiff, k356]
        rfl
      · rw [zm_off 355 (by decide), zm_j b0, k355 j b1 b2 b3 b4 b5 b6 b7]
    · obtain ⟨rfl, f12⟩ := e2 t a rfl
      refine ⟨_, rfl, ?_⟩
      rw [if_neg (by decide), k357]
      refine zCw.use (q_M_lays (d := 1) (Nat.le_refl _) (by omega) e5 e4) (by omega) (fun q μ2 e => ?_)
      obtain ⟨rfl, g1, g2, g3⟩ := e
      have t2 : μ2 357 155 = μ 357 155 := by rw [g2 155 (by omega) (by omega) (by omega), k357]
      have h355 : μ2 355 = μ1 355 := g3 355 (by decide)
      rw [t2]
      refine ⟨rfl, zI_s (by omega) (by omega), zI_s (by omega) (by omega), zCw.use (q_M_good (d := 1) (Nat.le_refl _)) (by omega) (fun q μ3 e => ?_)⟩
      obtain ⟨rfl, rfl⟩ := e
      refine ⟨_, rfl, fun q => absurd q c, fun _ => ⟨fun t1 q => (by cases q), fun t1 a1 q => ?_⟩⟩
      refine ⟨by omega, ?_, ?_, ?_, ⟨N, e5, e6, e7, ?_, fun u hu => ?_⟩, ?_, fun i b0 b1 b2 b3 => ?_, fun j b0 b1 b2 b3 b4 b5 b6 b7 => ?_, ((((f1.tr g3).mo (b := [355, 357, 364, 365, 366]) (by simp)).zm (by decide)).zm (by decide))⟩
      · rw [zm_s]
      · rw [zm_j (by decide), zm_off 355 (by decide), h355, e3]
      · rw [zm_j (by decide), zm_off 355 (by decide), h355, f12]
      · rw [zm_off 357 (by decide), zm_j (by omega)]
        exact g1.1
      · rw [zm_off 357 (by decide), zm_j (by omega), zm_j (by omega)]
        exact g1.2 u hu
      · rw [zm_off 357 (by decide), zm_s]
      · rw [zm_off 357 (by decide), zm_j b0, g2 i b1 b2 b3, k357]
      · rw [zm_j b0, zm_off 355 (by decide), h355, k355 j b1 b2 b3 b4 b5 b6 b7]

