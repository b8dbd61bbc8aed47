/-! lendings: their rows, in the class -/
noncomputable def pbM (μ : zMem) (b p : Int) : Nat → Int
  | 0 => μ 3 p
  | i + 1 => pbM μ b p i + zit (zbit b i) (zit (μ 329 i = p) (-(μ 331 i)) (zit (μ 330 i = p) (μ 331 i) 0)) 0
def okN (μ : zMem) : Prop := (0 ≤ μ 328 5 ∧ μ 328 5 ≤ 8) ∧ (∀ i : Int, 0 ≤ i → i < μ 328 5 → (0 ≤ μ 329 i ∧ μ 329 i ≤ 6) ∧ (0 ≤ μ 330 i ∧ μ 330 i ≤ 6) ∧ 1 ≤ μ 331 i ∧ μ 331 i ≤ 1000) ∧ okP (μ 3)
theorem pbM_in {μ : zMem} {b p : Int} (h : okN μ) (hp : 0 ≤ p ∧ p < 7) : ∀ i : Nat, (i : Int) ≤ μ 328 5 → -(1000 * (i : Int)) ≤ pbM μ b p i ∧ pbM μ b p i ≤ 9999 + 1000 * i
  | 0, _ => by
    have := h.2.2 p hp.1 hp.2
    unfold pbM
    omega
  | i + 1, hi => by
    have h1 := pbM_in (b := b) h hp i (by omega)
    have h2 := (h.2.1 i (by omega) (by omega)).2.2
    unfold pbM zit
    repeat' split
    all_goals omega
theorem fl_Ln_70 : zFl "DebtDoors$Lendings" 70 1 0 := ⟨_, rfl, by decide, (zTb_in 183 (by decide +kernel) (by decide +kernel)), rfl⟩
def y_Ln_purseBehind : zMt := (⟨"DebtDoors$Lendings", "purseBehind", "(LDebtDoors$Ledger;II)I"⟩, prog_4_method_7_code, 6, some .int)
theorem d_Ln_purseBehind_0 : decode prog_4_method_7_code 0 = .ok (.aload_n 1, 1) := by decide +kernel
theorem d_Ln_purseBehind_1 : decode prog_4_method_7_code 1 = .ok (.getfield 70, 3) := by decide +kernel
theorem d_Ln_purseBehind_4 : decode prog_4_method_7_code 4 = .ok (.iload_n 3, 1) := by decide +kernel
theorem d_Ln_purseBehind_5 : decode prog_4_method_7_code 5 = .ok (.iaload, 1) := by decide +kernel
theorem d_Ln_purseBehind_6 : decode prog_4_method_7_code 6 = .ok (.istore 4, 2) := by decide +kernel
theorem d_Ln_purseBehind_8 : decode prog_4_method_7_code 8 = .ok (.iconst 0, 1) := by decide +kernel
theorem d_Ln_purseBehind_9 : decode prog_4_method_7_code 9 = .ok (.istore 5, 2) := by decide +kernel
theorem d_Ln_purseBehind_11 : decode prog_4_method_7_code 11 = .ok (.iload 5, 2) := by decide +kernel
theorem d_Ln_purseBehind_13 : decode prog_4_method_7_code 13 = .ok (.aload_n 0, 1) := by decide +kernel
theorem d_Ln_purseBehind_14 : decode prog_4_method_7_code 14 = .ok (.getfield 27, 3) := by decide +kernel
theorem d_Ln_purseBehind_17 : decode prog_4_method_7_code 17 = .ok (.if_icmp .ge 70, 3) := by decide +kernel
theorem d_Ln_purseBehind_20 : decode prog_4_method_7_code 20 = .ok (.iload_n 2, 1) := by decide +kernel
theorem d_Ln_purseBehind_21 : decode prog_4_method_7_code 21 = .ok (.iload 5, 2) := by decide +kernel
theorem d_Ln_purseBehind_23 : decode prog_4_method_7_code 23 = .ok (.ishr, 1) := by decide +kernel
theorem d_Ln_purseBehind_24 : decode prog_4_method_7_code 24 = .ok (.iconst 1, 1) := by decide +kernel
theorem d_Ln_purseBehind_25 : decode prog_4_method_7_code 25 = .ok (.iand, 1) := by decide +kernel
theorem d_Ln_purseBehind_26 : decode prog_4_method_7_code 26 = .ok (.ifCond .ne 6, 3) := by decide +kernel
theorem d_Ln_purseBehind_29 : decode prog_4_method_7_code 29 = .ok (.goto 52, 3) := by decide +kernel
theorem d_Ln_purseBehind_32 : decode prog_4_method_7_code 32 = .ok (.aload_n 0, 1) := by decide +kernel
theorem d_Ln_purseBehind_33 : decode prog_4_method_7_code 33 = .ok (.getfield 9, 3) := by decide +kernel
theorem d_Ln_purseBehind_36 : decode prog_4_method_7_code 36 = .ok (.iload 5, 2) := by decide +kernel
theorem d_Ln_purseBehind_38 : decode prog_4_method_7_code 38 = .ok (.iaload, 1) := by decide +kernel
theorem d_Ln_purseBehind_39 : decode prog_4_method_7_code 39 = .ok (.iload_n 3, 1) := by decide +kernel
theorem d_Ln_purseBehind_40 : decode prog_4_method_7_code 40 = .ok (.if_icmp .ne 18, 3) := by decide +kernel
theorem d_Ln_purseBehind_43 : decode prog_4_method_7_code 43 = .ok (.iload 4, 2) := by decide +kernel
theorem d_Ln_purseBehind_45 : decode prog_4_method_7_code 45 = .ok (.aload_n 0, 1) := by decide +kernel
theorem d_Ln_purseBehind_46 : decode prog_4_method_7_code 46 = .ok (.getfield 18, 3) := by decide +kernel
theorem d_Ln_purseBehind_49 : decode prog_4_method_7_code 49 = .ok (.iload 5, 2) := by decide +kernel
theorem d_Ln_purseBehind_51 : decode prog_4_method_7_code 51 = .ok (.iaload, 1) := by decide +kernel
theorem d_Ln_purseBehind_52 : decode prog_4_method_7_code 52 = .ok (.isub, 1) := by decide +kernel
theorem d_Ln_purseBehind_53 : decode prog_4_method_7_code 53 = .ok (.istore 4, 2) := by decide +kernel
theorem d_Ln_purseBehind_55 : decode prog_4_method_7_code 55 = .ok (.goto 26, 3) := by decide +kernel
theorem d_Ln_purseBehind_58 : decode prog_4_method_7_code 58 = .ok (.aload_n 0, 1) := by decide +kernel
theorem d_Ln_purseBehind_59 : decode prog_4_method_7_code 59 = .ok (.getfield 15, 3) := by decide +kernel
theorem d_Ln_purseBehind_62 : decode prog_4_method_7_code 62 = .ok (.iload 5, 2) := by decide +kernel
theorem d_Ln_purseBehind_64 : decode prog_4_method_7_code 64 = .ok (.iaload, 1) := by decide +kernel
theorem d_Ln_purseBehind_65 : decode prog_4_method_7_code 65 = .ok (.iload_n 3, 1) := by decide +kernel
theorem d_Ln_purseBehind_66 : decode prog_4_method_7_code 66 = .ok (.if_icmp .ne 15, 3) := by decide +kernel
theorem d_Ln_purseBehind_69 : decode prog_4_method_7_code 69 = .ok (.iload 4, 2) := by decide +kernel
theorem d_Ln_purseBehind_71 : decode prog_4_method_7_code 71 = .ok (.aload_n 0, 1) := by decide +kernel
theorem d_Ln_purseBehind_72 : decode prog_4_method_7_code 72 = .ok (.getfield 18, 3) := by decide +kernel
theorem d_Ln_purseBehind_75 : decode prog_4_method_7_code 75 = .ok (.iload 5, 2) := by decide +kernel
theorem d_Ln_purseBehind_77 : decode prog_4_method_7_code 77 = .ok (.iaload, 1) := by decide +kernel
theorem d_Ln_purseBehind_78 : decode prog_4_method_7_code 78 = .ok (.iadd, 1) := by decide +kernel
theorem d_Ln_purseBehind_79 : decode prog_4_method_7_code 79 = .ok (.istore 4, 2) := by decide +kernel
theorem d_Ln_purseBehind_81 : decode prog_4_method_7_code 81 = .ok (.iinc 5 1, 3) := by decide +kernel
theorem d_Ln_purseBehind_84 : decode prog_4_method_7_code 84 = .ok (.goto (-73), 3) := by decide +kernel
theorem d_Ln_purseBehind_87 : decode prog_4_method_7_code 87 = .ok (.iload 4, 2) := by decide +kernel
theorem d_Ln_purseBehind_89 : decode prog_4_method_7_code 89 = .ok (.ireturn, 1) := by decide +kernel
def w_Ln_purseBehind {d : Nat} (hd : 1 ≤ d) := (show SS ("DebtDoors$Lendings", prog_4_method_7_code, 6) (some .int) d 0 0 0 0 _ from (sS (p1 := 8) (sI (xE (rIa (rFr fl_Ln_70 nk_1_0 (rAn 1 d_Ln_purseBehind_0 rfl) d_Ln_purseBehind_1) (rIn 3 d_Ln_purseBehind_4 rfl) d_Ln_purseBehind_5)) d_Ln_purseBehind_6 (by decide)) (sS (p1 := 87) (sS (p1 := 11) (sI (xE (rI d_Ln_purseBehind_8 rfl)) d_Ln_purseBehind_9 (by decide)) (sLp (ps := 81) (tt := 20) (pn := 87) (p1 := 0) (p2 := 0) (xC (rNot (rJ2 (tgt := 87) j_ge (rIl d_Ln_purseBehind_11) (rF 5 fl_Ln_27 nk_2_5 (rAn 0 d_Ln_purseBehind_13 rfl) d_Ln_purseBehind_14 rfl) d_Ln_purseBehind_17 (by decide)))) (sS (p1 := 32) (sIf (pn := 32) (tt := 81) (xC (rGt (p2 := 81) (rNot (rJ1 (tgt := 32) k_ne (r2 o_and (r2 o_shr (rIn 2 d_Ln_purseBehind_20 rfl) (rIl d_Ln_purseBehind_21) d_Ln_purseBehind_23) (rI d_Ln_purseBehind_24 rfl) d_Ln_purseBehind_25) d_Ln_purseBehind_26 (by decide))) d_Ln_purseBehind_29 (by decide))) sCo0) (sIe (pn := 81) (tt := 43) (ff := 58) (xC (rNot (rJ2 (tgt := 58) j_ne (rIa (rFr fl_Ln_9 nk_2_0 (rAn 0 d_Ln_purseBehind_32 rfl) d_Ln_purseBehind_33) (rIl d_Ln_purseBehind_36) d_Ln_purseBehind_38) (rIn 3 d_Ln_purseBehind_39 rfl) d_Ln_purseBehind_40 (by decide)))) (sGo (pn := 81) (sI (xE (r2 o_sub (rIl d_Ln_purseBehind_43) (rIa (rFr fl_Ln_18 nk_2_2 (rAn 0 d_Ln_purseBehind_45 rfl) d_Ln_purseBehind_46) (rIl d_Ln_purseBehind_49) d_Ln_purseBehind_51) d_Ln_purseBehind_52)) d_Ln_purseBehind_53 (by decide)) d_Ln_purseBehind_55 (by decide)) (sIf (pn := 81) (tt := 69) (xC (rNot (rJ2 (tgt := 81) j_ne (rIa (rFr fl_Ln_15 nk_2_1 (rAn 0 d_Ln_purseBehind_58 rfl) d_Ln_purseBehind_59) (rIl d_Ln_purseBehind_62) d_Ln_purseBehind_64) (rIn 3 d_Ln_purseBehind_65 rfl) d_Ln_purseBehind_66 (by decide)))) (sI (xE (r2 o_add (rIl d_Ln_purseBehind_69) (rIa (rFr fl_Ln_18 nk_2_2 (rAn 0 d_Ln_purseBehind_71 rfl) d_Ln_purseBehind_72) (rIl d_Ln_purseBehind_75) d_Ln_purseBehind_77) d_Ln_purseBehind_78)) d_Ln_purseBehind_79 (by decide))))) (sGo (pn := 11) (sInc d_Ln_purseBehind_81 (by decide)) d_Ln_purseBehind_84 (by decide)))) (sRi (xE (rIl d_Ln_purseBehind_87)) d_Ln_purseBehind_89 rfl))))
noncomputable def f_Ln_purseBehind : List zV → zMem → Int
  | [.inr (.inr (.inl q0)), .inr (.inr (.inl q1)), .inl b, .inl p], μ => pbM μ b p (μ 328 5).toNat
  | _, _ => 0
def g_Ln_purseBehind : List zV → zMem → Prop
  | [.inr (.inr (.inl q0)), .inr (.inr (.inl q1)), .inl b, .inl p], μ => q0 = 328 ∧ q1 = 2 ∧ (okN μ ∧ (0 ≤ b ∧ b < 256) ∧ 0 ≤ p ∧ p < 7)
  | _, _ => False
theorem p_Ln_purseBehind : zPu y_Ln_purseBehind 1 f_Ln_purseBehind g_Ln_purseBehind := by
  intro as μ h
  unfold g_Ln_purseBehind at h
  split at h
  · next q0 q1 b p =>
    obtain ⟨rfl, rfl, h⟩ := h
    refine zSp.ss [vr 328, vr 2, vi b, vi p, vx 0, vx 0] rfl (w_Ln_purseBehind (Nat.le_refl _)) rfl rfl ?_
    have h8 := h.1.1
    (try simp only [zit_e, Bool.and_eq_true, Bool.or_eq_true, Bool.not_eq_true', Bool.and_eq_false_iff, Bool.or_eq_false_iff, Bool.not_eq_false', zbe, zdt, zdf, zb2_p, zbp_0, zbp_1, zbp_inj, zbp_01, Bool.true_eq_false, Bool.false_eq_true, true_and, and_true, Decidable.not_not, Classical.not_not, implies_true, List.nil_append, List.cons_append, List.append_assoc, Option.some.injEq, Sum.inl.injEq, zSw_c, zSw_n]); (try simp only [zit_e, Bool.and_eq_true, Bool.or_eq_true, Bool.not_eq_true', Bool.and_eq_false_iff, Bool.or_eq_false_iff, Bool.not_eq_false', zbe, zdt, zdf, zb2_p, zbp_0, zbp_1, zbp_inj, zbp_01, Bool.true_eq_false, Bool.false_eq_true, true_and, and_true, Decidable.not_not, Classical.not_not, implies_true, List.nil_append, List.cons_append, List.append_assoc, Option.some.injEq, Sum.inl.injEq, zSw_c, zSw_n, f_Ln_purseBehind, zc_328, zc_2]); (try simp only [zi_cs, zi_c0, zii_cs, zii_c0, zl_cs, zl_c0, zll_cs, zll_c0, zr_cs, zr_c0, zrr_cs, zrr_c0, zxs_cs, zxs_c0, zxx_cs, zxx_c0, zfree_c0, zfree_c1, zfree_cs, zfree_cz, zlong_i, zlong_r, zlong_x, zset_0, zset_s, true_and, and_true, Option.some.injEq, Sum.inl.injEq, Sum.inr.injEq, zb2_p, zbp_0, zbp_1, zbp_inj, zbp_01, Nat.zero_add, Nat.reduceAdd, implies_true, List.nil_append, List.cons_append, List.append_assoc, Int.not_lt, Int.not_le, Decidable.not_not, Int.zero_add, Int.reduceLE, Int.reduceLT, Int.reduceEq, Int.reduceNe, Int.reduceAdd, Int.reduceSub, Int.reduceMul, Int.reduceNeg, Int.reduceToNat, Nat.reduceMul, Nat.reduceLT, Nat.reduceEqDiff, and_self, ite_true, ite_false, zx1, zx2, zRecv, List.length_cons, List.length_nil, ne_eq, not_true_eq_false, not_false_eq_true, true_or, or_true, or_false, false_or, and_false, false_and, zf01, zf10, reduceCtorEq, zSw_c, zSw_n, zm_r, zit_T, zit_F, false_implies, true_implies, f_Ln_purseBehind, zc_328, zc_2])
    refine ⟨h.2.2, ?_⟩
    refine zLoop.up (μ 328 5).toNat (fun j ρ μ1 => ρ = [vr 328, vr 2, vi b, vi p, vi (pbM μ b p j), vi j] ∧ μ = μ1) ⟨rfl, rfl⟩ ?_
    rintro j ρ μ1 hj ⟨rfl, rfl⟩
    (try simp only [zit_e, Bool.and_eq_true, Bool.or_eq_true, Bool.not_eq_true', Bool.and_eq_false_iff, Bool.or_eq_false_iff, Bool.not_eq_false', zbe, zdt, zdf, zb2_p, zbp_0, zbp_1, zbp_inj, zbp_01, Bool.true_eq_false, Bool.false_eq_true, true_and, and_true, Decidable.not_not, Classical.not_not, implies_true, List.nil_append, List.cons_append, List.append_assoc, Option.some.injEq, Sum.inl.injEq, zSw_c, zSw_n]); (try simp only [zit_e, Bool.and_eq_true, Bool.or_eq_true, Bool.not_eq_true', Bool.and_eq_false_iff, Bool.or_eq_false_iff, Bool.not_eq_false', zbe, zdt, zdf, zb2_p, zbp_0, zbp_1, zbp_inj, zbp_01, Bool.true_eq_false, Bool.false_eq_true, true_and, and_true, Decidable.not_not, Classical.not_not, implies_true, List.nil_append, List.cons_append, List.append_assoc, Option.some.injEq, Sum.inl.injEq, zSw_c, zSw_n, f_Ln_purseBehind, zc_328, zc_2]); (try simp only [zi_cs, zi_c0, zii_cs, zii_c0, zl_cs, zl_c0, zll_cs, zll_c0, zr_cs, zr_c0, zrr_cs, zrr_c0, zxs_cs, zxs_c0, zxx_cs, zxx_c0, zfree_c0, zfree_c1, zfree_cs, zfree_cz, zlong_i, zlong_r, zlong_x, zset_0, zset_s, true_and, and_true, Option.some.injEq, Sum.inl.injEq, Sum.inr.injEq, zb2_p, zbp_0, zbp_1, zbp_inj, zbp_01, Nat.zero_add, Nat.reduceAdd, implies_true, List.nil_append, List.cons_append, List.append_assoc, Int.not_lt, Int.not_le, Decidable.not_not, Int.zero_add, Int.reduceLE, Int.reduceLT, Int.reduceEq, Int.reduceNe, Int.reduceAdd, Int.reduceSub, Int.reduceMul, Int.reduceNeg, Int.reduceToNat, Nat.reduceMul, Nat.reduceLT, Nat.reduceEqDiff, and_self, ite_true, ite_false, zx1, zx2, zRecv, List.length_cons, List.length_nil, ne_eq, not_true_eq_false, not_false_eq_true, true_or, or_true, or_false, false_or, and_false, false_and, zf01, zf10, reduceCtorEq, zSw_c, zSw_n, zm_r, zit_T, zit_F, false_implies, true_implies, f_Ln_purseBehind, zc_328, zc_2])
    refine zif (fun c => ?_) (fun c => ?_)
    · have es : pbM μ b p (j + 1) = pbM μ b p j + zit (zbit b j) (zit (μ 329 j = p) (-(μ 331 j)) (zit (μ 330 j = p) (μ 331 j) 0)) 0 := rfl
      have i1 := pbM_in (b := b) h.1 h.2.2 (j + 1) (by omega)
      have i0 := pbM_in (b := b) h.1 h.2.2 j (by omega)
      have ik := h.1.2.1 j (by omega) c
      rw [zbit_e h.2.1.1 (by omega) (by omega) (by omega)]
      refine zif (fun c1 => ?_) (fun c1 => ?_)
      · rw [zbp_0] at c1
        rw [zit_f c1] at es
        exact ⟨zI_s (by omega) (by omega), (μ 328 5).toNat - (j + 1), by omega, j + 1, rfl, by omega, by rw [es, Int.add_zero]; rfl⟩
      · rw [zbp_0] at c1
        rw [zit_t (Classical.not_not.mp c1)] at es
        refine ⟨by omega, ?_⟩
        refine zif (fun c2 => ?_) (fun c2 => ?_)
        · rw [zit_t c2] at es
          exact ⟨by ((repeat' apply And.intro) <;> (first | omega | (simp only [zI_e]; omega) | exact True.intro | (intro _; (repeat' apply And.intro) <;> (first | omega | (simp only [zI_e]; omega) | exact True.intro)))), zI_s (by omega) (by omega), (μ 328 5).toNat - (j + 1), by omega, j + 1, rfl, by omega, by rw [es]; rfl⟩
        · rw [zit_f c2] at es
          refine ⟨by omega, ?_⟩
          refine zif (fun c3 => ?_) (fun c3 => ?_)
          · rw [zit_t c3] at es
            exact ⟨by ((repeat' apply And.intro) <;> (first | omega | (simp only [zI_e]; omega) | exact True.intro | (intro _; (repeat' apply And.intro) <;> (first | omega | (simp only [zI_e]; omega) | exact True.intro)))), zI_s (by omega) (by omega), (μ 328 5).toNat - (j + 1), by omega, j + 1, rfl, by omega, by rw [es]; rfl⟩
          · rw [zit_f c3] at es
            exact ⟨zI_s (by omega) (by omega), (μ 328 5).toNat - (j + 1), by omega, j + 1, rfl, by omega, by rw [es, Int.add_zero]; rfl⟩
    · rw [show j = (μ 328 5).toNat by omega]
  · exact h.elim
def lcM (μ : zMem) (b i : Int) : Prop := ¬ zbit b i ∧ μ 331 i ≤ pbM μ b (μ 329 i) (μ 328 5).toNat ∧ pbM μ b (μ 330 i) (μ 328 5).toNat + μ 331 i ≤ 9999
theorem m_Ln_purseBehind : Cond.instanceMethod y_Ln_purseBehind.1 ∈ zTb ∧ Cond.selects y_Ln_purseBehind.1.cls y_Ln_purseBehind.1 y_Ln_purseBehind.1 ∈ zTb ∧ Cond.initialized y_Ln_purseBehind.1.cls ∈ zTb ∧ Cond.code y_Ln_purseBehind.1 y_Ln_purseBehind.2.1 y_Ln_purseBehind.2.2.1 y_Ln_purseBehind.2.2.2 ∈ zTb ∧ (y_Ln_purseBehind.1.cls ≠ "java/lang/invoke/MethodHandle" ∧ y_Ln_purseBehind.1.cls ≠ "java/lang/invoke/VarHandle" ∧ (parseMethodDescriptor y_Ln_purseBehind.1.desc).map (fun d => d.parameters.length) = some 3) ∧ y_Ln_purseBehind.2.2.1 ≤ 20 :=
  ⟨(zTb_in 1123 (by decide +kernel) (by decide +kernel)), (List.mem_filter.mpr ⟨List.mem_append_left _ (by decide +kernel), by decide +kernel⟩), (zTb_in 146 (by decide +kernel) (by decide +kernel)), (zTb_in 1124 (by decide +kernel) (by decide +kernel)), by decide +kernel, by decide +kernel⟩
theorem lv_Ln_66 : zLv "DebtDoors$Lendings" 66 y_Ln_purseBehind 3 2 := ⟨⟨(zTb_in 1121 (by decide +kernel) (by decide +kernel)), m_Ln_purseBehind.1, m_Ln_purseBehind.2.1, m_Ln_purseBehind.2.2⟩, _, rfl, rfl⟩
def y_Ln_canCome : zMt := (⟨"DebtDoors$Lendings", "canCome", "(LDebtDoors$Ledger;II)Z"⟩, prog_4_method_6_code, 4, some .boolean)
theorem d_Ln_canCome_0 : decode prog_4_method_6_code 0 = .ok (.iload_n 2, 1) := by decide +kernel
theorem d_Ln_canCome_1 : decode prog_4_method_6_code 1 = .ok (.iload_n 3, 1) := by decide +kernel
theorem d_Ln_canCome_2 : decode prog_4_method_6_code 2 = .ok (.ishr, 1) := by decide +kernel
theorem d_Ln_canCome_3 : decode prog_4_method_6_code 3 = .ok (.iconst 1, 1) := by decide +kernel
theorem d_Ln_canCome_4 : decode prog_4_method_6_code 4 = .ok (.iand, 1) := by decide +kernel
theorem d_Ln_canCome_5 : decode prog_4_method_6_code 5 = .ok (.ifCond .ne 53, 3) := by decide +kernel
theorem d_Ln_canCome_8 : decode prog_4_method_6_code 8 = .ok (.aload_n 0, 1) := by decide +kernel
theorem d_Ln_canCome_9 : decode prog_4_method_6_code 9 = .ok (.aload_n 1, 1) := by decide +kernel
theorem d_Ln_canCome_10 : decode prog_4_method_6_code 10 = .ok (.iload_n 2, 1) := by decide +kernel
theorem d_Ln_canCome_11 : decode prog_4_method_6_code 11 = .ok (.aload_n 0, 1) := by decide +kernel
theorem d_Ln_canCome_12 : decode prog_4_method_6_code 12 = .ok (.getfield 9, 3) := by decide +kernel
theorem d_Ln_canCome_15 : decode prog_4_method_6_code 15 = .ok (.iload_n 3, 1) := by decide +kernel
theorem d_Ln_canCome_16 : decode prog_4_method_6_code 16 = .ok (.iaload, 1) := by decide +kernel
theorem d_Ln_canCome_17 : decode prog_4_method_6_code 17 = .ok (.invokevirtual 66, 3) := by decide +kernel
theorem d_Ln_canCome_20 : decode prog_4_method_6_code 20 = .ok (.aload_n 0, 1) := by decide +kernel
theorem d_Ln_canCome_21 : decode prog_4_method_6_code 21 = .ok (.getfield 18, 3) := by decide +kernel
theorem d_Ln_canCome_24 : decode prog_4_method_6_code 24 = .ok (.iload_n 3, 1) := by decide +kernel
theorem d_Ln_canCome_25 : decode prog_4_method_6_code 25 = .ok (.iaload, 1) := by decide +kernel
theorem d_Ln_canCome_26 : decode prog_4_method_6_code 26 = .ok (.if_icmp .lt 32, 3) := by decide +kernel
theorem d_Ln_canCome_29 : decode prog_4_method_6_code 29 = .ok (.aload_n 0, 1) := by decide +kernel
theorem d_Ln_canCome_30 : decode prog_4_method_6_code 30 = .ok (.aload_n 1, 1) := by decide +kernel
theorem d_Ln_canCome_31 : decode prog_4_method_6_code 31 = .ok (.iload_n 2, 1) := by decide +kernel
theorem d_Ln_canCome_32 : decode prog_4_method_6_code 32 = .ok (.aload_n 0, 1) := by decide +kernel
theorem d_Ln_canCome_33 : decode prog_4_method_6_code 33 = .ok (.getfield 15, 3) := by decide +kernel
theorem d_Ln_canCome_36 : decode prog_4_method_6_code 36 = .ok (.iload_n 3, 1) := by decide +kernel
theorem d_Ln_canCome_37 : decode prog_4_method_6_code 37 = .ok (.iaload, 1) := by decide +kernel
theorem d_Ln_canCome_38 : decode prog_4_method_6_code 38 = .ok (.invokevirtual 66, 3) := by decide +kernel
theorem d_Ln_canCome_41 : decode prog_4_method_6_code 41 = .ok (.aload_n 0, 1) := by decide +kernel
theorem d_Ln_canCome_42 : decode prog_4_method_6_code 42 = .ok (.getfield 18, 3) := by decide +kernel
theorem d_Ln_canCome_45 : decode prog_4_method_6_code 45 = .ok (.iload_n 3, 1) := by decide +kernel
theorem d_Ln_canCome_46 : decode prog_4_method_6_code 46 = .ok (.iaload, 1) := by decide +kernel
theorem d_Ln_canCome_47 : decode prog_4_method_6_code 47 = .ok (.iadd, 1) := by decide +kernel
theorem d_Ln_canCome_48 : decode prog_4_method_6_code 48 = .ok (.sipush 9999, 3) := by decide +kernel
theorem d_Ln_canCome_51 : decode prog_4_method_6_code 51 = .ok (.if_icmp .gt 7, 3) := by decide +kernel
theorem d_Ln_canCome_54 : decode prog_4_method_6_code 54 = .ok (.iconst 1, 1) := by decide +kernel
theorem d_Ln_canCome_55 : decode prog_4_method_6_code 55 = .ok (.goto 4, 3) := by decide +kernel
theorem d_Ln_canCome_58 : decode prog_4_method_6_code 58 = .ok (.iconst 0, 1) := by decide +kernel
theorem d_Ln_canCome_59 : decode prog_4_method_6_code 59 = .ok (.ireturn, 1) := by decide +kernel
def w_Ln_canCome {d : Nat} (hd : 2 ≤ d) := (show SS ("DebtDoors$Lendings", prog_4_method_6_code, 4) (some .boolean) d 0 0 0 0 _ from (sRz (xE (rTb (rAnd (mm := 29) (rAnd (mm := 8) (rNot (rJ1 (tgt := 58) k_ne (r2 o_and (r2 o_shr (rIn 2 d_Ln_canCome_0 rfl) (rIn 3 d_Ln_canCome_1 rfl) d_Ln_canCome_2) (rI d_Ln_canCome_3 rfl) d_Ln_canCome_4) d_Ln_canCome_5 (by decide))) (rNot (rJ2 (tgt := 58) j_lt (rV p_Ln_purseBehind (Nat.le_trans (Nat.le_of_ble_eq_true rfl) hd) lv_Ln_66 (rAi (rAi (rAr (rAr rA0 (rAn 0 d_Ln_canCome_8 rfl)) (rAn 1 d_Ln_canCome_9 rfl)) (rIn 2 d_Ln_canCome_10 rfl)) (rIa (rFr fl_Ln_9 nk_2_0 (rAn 0 d_Ln_canCome_11 rfl) d_Ln_canCome_12) (rIn 3 d_Ln_canCome_15 rfl) d_Ln_canCome_16)) (by decide) d_Ln_canCome_17) (rIa (rFr fl_Ln_18 nk_2_2 (rAn 0 d_Ln_canCome_20 rfl) d_Ln_canCome_21) (rIn 3 d_Ln_canCome_24 rfl) d_Ln_canCome_25) d_Ln_canCome_26 (by decide)))) (rNot (rJ2 (tgt := 58) j_gt (r2 o_add (rV p_Ln_purseBehind (Nat.le_trans (Nat.le_of_ble_eq_true rfl) hd) lv_Ln_66 (rAi (rAi (rAr (rAr rA0 (rAn 0 d_Ln_canCome_29 rfl)) (rAn 1 d_Ln_canCome_30 rfl)) (rIn 2 d_Ln_canCome_31 rfl)) (rIa (rFr fl_Ln_15 nk_2_1 (rAn 0 d_Ln_canCome_32 rfl) d_Ln_canCome_33) (rIn 3 d_Ln_canCome_36 rfl) d_Ln_canCome_37)) (by decide) d_Ln_canCome_38) (rIa (rFr fl_Ln_18 nk_2_2 (rAn 0 d_Ln_canCome_41 rfl) d_Ln_canCome_42) (rIn 3 d_Ln_canCome_45 rfl) d_Ln_canCome_46) d_Ln_canCome_47) (rSi d_Ln_canCome_48 rfl) d_Ln_canCome_51 (by decide)))) (rGoE (p2 := 59) (rI d_Ln_canCome_54 rfl) d_Ln_canCome_55 (by decide)) (rI d_Ln_canCome_58 rfl))) d_Ln_canCome_59 rfl))
noncomputable def f_Ln_canCome : List zV → zMem → Int
  | [.inr (.inr (.inl q0)), .inr (.inr (.inl q1)), .inl b, .inl i], μ => zbp (lcM μ b i)
  | _, _ => 0
def g_Ln_canCome : List zV → zMem → Prop
  | [.inr (.inr (.inl q0)), .inr (.inr (.inl q1)), .inl b, .inl i], μ => q0 = 328 ∧ q1 = 2 ∧ (okN μ ∧ (0 ≤ b ∧ b < 256) ∧ 0 ≤ i ∧ i < μ 328 5)
  | _, _ => False
theorem p_Ln_canCome : zPu y_Ln_canCome 2 f_Ln_canCome g_Ln_canCome := by
  intro as μ h
  unfold g_Ln_canCome at h
  split at h
  · next q0 q1 b i =>
    obtain ⟨rfl, rfl, h⟩ := h
    refine zSp.ss [vr 328, vr 2, vi b, vi i] rfl (w_Ln_canCome (Nat.le_refl _)) rfl rfl ?_
    have h8 := h.1.1
    have ik := h.1.2.1 i h.2.2.1 h.2.2.2
    have i1 := pbM_in (b := b) h.1 (p := μ 330 i) (by omega) (μ 328 5).toNat (by omega)
    (try simp only [zit_e, Bool.and_eq_true, Bool.or_eq_true, Bool.not_eq_true', Bool.and_eq_false_iff, Bool.or_eq_false_iff, Bool.not_eq_false', zbe, zdt, zdf, zb2_p, zbp_0, zbp_1, zbp_inj, zbp_01, Bool.true_eq_false, Bool.false_eq_true, true_and, and_true, Decidable.not_not, Classical.not_not, implies_true, List.nil_append, List.cons_append, List.append_assoc, Option.some.injEq, Sum.inl.injEq, zSw_c, zSw_n]); (try simp only [zit_e, Bool.and_eq_true, Bool.or_eq_true, Bool.not_eq_true', Bool.and_eq_false_iff, Bool.or_eq_false_iff, Bool.not_eq_false', zbe, zdt, zdf, zb2_p, zbp_0, zbp_1, zbp_inj, zbp_01, Bool.true_eq_false, Bool.false_eq_true, true_and, and_true, Decidable.not_not, Classical.not_not, implies_true, List.nil_append, List.cons_append, List.append_assoc, Option.some.injEq, Sum.inl.injEq, zSw_c, zSw_n, f_Ln_canCome, zc_328, zc_2, f_Ln_purseBehind, g_Ln_purseBehind]); (try simp only [zi_cs, zi_c0, zii_cs, zii_c0, zl_cs, zl_c0, zll_cs, zll_c0, zr_cs, zr_c0, zrr_cs, zrr_c0, zxs_cs, zxs_c0, zxx_cs, zxx_c0, zfree_c0, zfree_c1, zfree_cs, zfree_cz, zlong_i, zlong_r, zlong_x, zset_0, zset_s, true_and, and_true, Option.some.injEq, Sum.inl.injEq, Sum.inr.injEq, zb2_p, zbp_0, zbp_1, zbp_inj, zbp_01, Nat.zero_add, Nat.reduceAdd, implies_true, List.nil_append, List.cons_append, List.append_assoc, Int.not_lt, Int.not_le, Decidable.not_not, Int.zero_add, Int.reduceLE, Int.reduceLT, Int.reduceEq, Int.reduceNe, Int.reduceAdd, Int.reduceSub, Int.reduceMul, Int.reduceNeg, Int.reduceToNat, Nat.reduceMul, Nat.reduceLT, Nat.reduceEqDiff, and_self, ite_true, ite_false, zx1, zx2, zRecv, List.length_cons, List.length_nil, ne_eq, not_true_eq_false, not_false_eq_true, true_or, or_true, or_false, false_or, and_false, false_and, zf01, zf10, reduceCtorEq, zSw_c, zSw_n, zm_r, zit_T, zit_F, false_implies, true_implies, f_Ln_canCome, zc_328, zc_2, f_Ln_purseBehind, g_Ln_purseBehind])
    rw [zbit_e h.2.1.1 (by omega) (by omega) (by omega)]
    simp only [zbp_0, zbp_1, zbp_inj, zbp_F, zbp_T]
    exact ⟨⟨fun _ => ⟨⟨by omega, h.1, h.2.1, by omega, by omega⟩, by omega⟩, fun _ => ⟨⟨by omega, h.1, h.2.1, by omega, by omega⟩, by omega, zI_s (by omega) (by omega)⟩⟩, (Classical.em _).symm, and_assoc⟩
  · exact h.elim
theorem pbM_S {μ : zMem} {L : List D4} {pu : Int → Int} (hA : LnC L μ) {b p : Int} (hp : μ 3 p = pu p) : ∀ i : Nat, i ≤ L.length → pbM μ b p i = pbS L pu b p i
  | 0, _ => hp
  | i + 1, hi => by
    have e := hA i (by omega)
    rw [pbM, pbS, pbM_S hA hp i (by omega), e.1.1, e.1.2, e.2.1]
theorem okN_L {μ : zMem} {L : List D4} (hA : LnC L μ) (h5 : μ 328 5 = (L.length : Int)) (h8 : L.length ≤ 8) (hL : ∀ x, x ∈ L → okL4 x) (hP : okP (μ 3)) : okN μ := by
  refine ⟨by omega, fun i x y => ?_, hP⟩
  have e := hA i.toNat (by omega)
  have o := hL _ (List.mem_of_getElem? (dfV_m (V := L) (k := i) x (by omega)))
  rw [show ((i.toNat : Nat) : Int) = i by omega] at e
  rw [e.1.1, e.1.2, e.2.1]
  exact ⟨o.1, o.2.1, o.2.2.2⟩
theorem lcM_S {μ : zMem} {L : List D4} {pu : Int → Int} (hA : LnC L μ) (h5 : μ 328 5 = (L.length : Int)) (hL : ∀ x, x ∈ L → okL4 x) (hp : ∀ p : Int, 0 ≤ p → p < 7 → μ 3 p = pu p) {b : Int} {i : Nat} (hi : i < L.length) : lcM μ b i ↔ lcS L pu b i := by
  have e := hA i hi
  have o := hL _ (List.mem_of_getElem? (dfV_m (V := L) (k := i) (by omega) (by omega)))
  unfold lcM lcS
  rw [h5, Int.toNat_natCast, e.1.1, e.1.2, e.2.1, pbM_S hA (hp _ o.1.1 (by have := o.1.2; omega)) _ (Nat.le_refl _), pbM_S hA (hp _ o.2.1.1 (by have := o.2.1.2; omega)) _ (Nat.le_refl _)]

