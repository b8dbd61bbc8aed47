/-! debts, on both sides -/
abbrev fD (μ : zMem) : Int → D4 := fun i => (μ 4 i, μ 5 i, μ 6 i, μ 7 i)
abbrev fM (μ : zMem) : Int → D4 := fun i => (μ 357 (7 + 4 * i), μ 357 (7 + 4 * i + 1), μ 357 (7 + 4 * i + 2), μ 357 (7 + 4 * i + 3))
def dbD (μ : zMem) : List D4 := tL (μ 2 5).toNat (fD μ)
def dbM (μ : zMem) : List D4 := tL (μ 357 71).toNat (fM μ)
def okd (x : D4) : Prop := (0 ≤ x.1 ∧ x.1 < 7) ∧ (0 ≤ x.2.1 ∧ x.2.1 < 7) ∧ x.1 ≠ x.2.1 ∧ (1 ≤ x.2.2.1 ∧ x.2.2.1 ≤ 9999) ∧ 0 ≤ x.2.2.2 ∧ x.2.2.2 ≤ 999
def okT (n : Int) (f : Int → D4) : Prop := (0 ≤ n ∧ n ≤ 16) ∧ ∀ j, 0 ≤ j → j < n → okd (f j)
theorem owL_app {a b : Int} : ∀ {l l2 : List D4}, owL a b (l ++ l2) = owL a b l + owL a b l2
  | [], l2 => by simp [owL]
  | (p, q, m, s) :: l, l2 => by
    rw [List.cons_append, owL, owL, owL_app]
    omega
theorem blL_app {p : Int} : ∀ {l l2 : List D4}, blL p (l ++ l2) = blL p l + blL p l2
  | [], l2 => by simp [blL]
  | (a, b, m, s) :: l, l2 => by
    rw [List.cons_append, blL, blL, blL_app]
    omega
theorem owL_s {a b : Int} {n : Nat} {f : Int → D4} : owL a b (tL (n + 1) f) = owL a b (tL n f) + if (f n).1 = a ∧ (f n).2.1 = b then (f n).2.2.1 else 0 := by
  rw [tL_succ, owL_app]
  simp [owL]
theorem blL_s {p : Int} {n : Nat} {f : Int → D4} : blL p (tL (n + 1) f) = blL p (tL n f) + if (f n).2.1 = p then (f n).2.2.1 else if (f n).1 = p then -(f n).2.2.1 else 0 := by
  rw [tL_succ, blL_app]
  simp [blL]
theorem owL_in {a b n : Int} {f : Int → D4} (h : okT n f) : ∀ j : Nat, j ≤ n → 0 ≤ owL a b (tL j f) ∧ owL a b (tL j f) ≤ 9999 * j
  | 0, _ => by simp [tL, owL]
  | j + 1, hj => by
    have h1 := owL_in (a := a) (b := b) h j (by omega)
    have h2 := (h.2 j (by omega) (by omega)).2.2.2.1
    rw [owL_s]
    split <;> omega
theorem blL_in {p n : Int} {f : Int → D4} (h : okT n f) : ∀ j : Nat, j ≤ n → -(9999 * j) ≤ blL p (tL j f) ∧ blL p (tL j f) ≤ 9999 * j
  | 0, _ => by simp [tL, blL]
  | j + 1, hj => by
    have h1 := blL_in (p := p) h j (by omega)
    have h2 := (h.2 j (by omega) (by omega)).2.2.2.1
    rw [blL_s]
    split
    · omega
    · split <;> omega
theorem nk_1_1 : zNk 1 1 = none := rfl
theorem nk_1_2 : zNk 1 2 = none := rfl
theorem nk_1_3 : zNk 1 3 = none := rfl
def y_Le_owed : zMt := (⟨"DebtDoors$Ledger", "owed", "(II)I"⟩, prog_3_method_4_code, 5, some .int)
theorem d_Le_owed_0 : decode prog_3_method_4_code 0 = .ok (.iconst 0, 1) := by decide +kernel
theorem d_Le_owed_1 : decode prog_3_method_4_code 1 = .ok (.istore_n 3, 1) := by decide +kernel
theorem d_Le_owed_2 : decode prog_3_method_4_code 2 = .ok (.iconst 0, 1) := by decide +kernel
theorem d_Le_owed_3 : decode prog_3_method_4_code 3 = .ok (.istore 4, 2) := by decide +kernel
theorem d_Le_owed_5 : decode prog_3_method_4_code 5 = .ok (.iload 4, 2) := by decide +kernel
theorem d_Le_owed_7 : decode prog_3_method_4_code 7 = .ok (.aload_n 0, 1) := by decide +kernel
theorem d_Le_owed_8 : decode prog_3_method_4_code 8 = .ok (.getfield 33, 3) := by decide +kernel
theorem d_Le_owed_11 : decode prog_3_method_4_code 11 = .ok (.if_icmp .ge 41, 3) := by decide +kernel
theorem d_Le_owed_14 : decode prog_3_method_4_code 14 = .ok (.aload_n 0, 1) := by decide +kernel
theorem d_Le_owed_15 : decode prog_3_method_4_code 15 = .ok (.getfield 15, 3) := by decide +kernel
theorem d_Le_owed_18 : decode prog_3_method_4_code 18 = .ok (.iload 4, 2) := by decide +kernel
theorem d_Le_owed_20 : decode prog_3_method_4_code 20 = .ok (.iaload, 1) := by decide +kernel
theorem d_Le_owed_21 : decode prog_3_method_4_code 21 = .ok (.iload_n 1, 1) := by decide +kernel
theorem d_Le_owed_22 : decode prog_3_method_4_code 22 = .ok (.if_icmp .ne 24, 3) := by decide +kernel
theorem d_Le_owed_25 : decode prog_3_method_4_code 25 = .ok (.aload_n 0, 1) := by decide +kernel
theorem d_Le_owed_26 : decode prog_3_method_4_code 26 = .ok (.getfield 18, 3) := by decide +kernel
theorem d_Le_owed_29 : decode prog_3_method_4_code 29 = .ok (.iload 4, 2) := by decide +kernel
theorem d_Le_owed_31 : decode prog_3_method_4_code 31 = .ok (.iaload, 1) := by decide +kernel
theorem d_Le_owed_32 : decode prog_3_method_4_code 32 = .ok (.iload_n 2, 1) := by decide +kernel
theorem d_Le_owed_33 : decode prog_3_method_4_code 33 = .ok (.if_icmp .ne 13, 3) := by decide +kernel
theorem d_Le_owed_36 : decode prog_3_method_4_code 36 = .ok (.iload_n 3, 1) := by decide +kernel
theorem d_Le_owed_37 : decode prog_3_method_4_code 37 = .ok (.aload_n 0, 1) := by decide +kernel
theorem d_Le_owed_38 : decode prog_3_method_4_code 38 = .ok (.getfield 21, 3) := by decide +kernel
theorem d_Le_owed_41 : decode prog_3_method_4_code 41 = .ok (.iload 4, 2) := by decide +kernel
theorem d_Le_owed_43 : decode prog_3_method_4_code 43 = .ok (.iaload, 1) := by decide +kernel
theorem d_Le_owed_44 : decode prog_3_method_4_code 44 = .ok (.iadd, 1) := by decide +kernel
theorem d_Le_owed_45 : decode prog_3_method_4_code 45 = .ok (.istore_n 3, 1) := by decide +kernel
theorem d_Le_owed_46 : decode prog_3_method_4_code 46 = .ok (.iinc 4 1, 3) := by decide +kernel
theorem d_Le_owed_49 : decode prog_3_method_4_code 49 = .ok (.goto (-44), 3) := by decide +kernel
theorem d_Le_owed_52 : decode prog_3_method_4_code 52 = .ok (.iload_n 3, 1) := by decide +kernel
theorem d_Le_owed_53 : decode prog_3_method_4_code 53 = .ok (.ireturn, 1) := by decide +kernel
def w_Le_owed {d : Nat} (hd : 1 ≤ d) := (show SS ("DebtDoors$Ledger", prog_3_method_4_code, 5) (some .int) d 0 0 0 0 _ from (sS (p1 := 2) (sIn 3 (xE (rI d_Le_owed_0 rfl)) d_Le_owed_1 rfl (by decide)) (sS (p1 := 52) (sS (p1 := 5) (sI (xE (rI d_Le_owed_2 rfl)) d_Le_owed_3 (by decide)) (sLp (ps := 46) (tt := 14) (pn := 52) (p1 := 0) (p2 := 0) (xC (rNot (rJ2 (tgt := 52) j_ge (rIl d_Le_owed_5) (rF 5 fl_Le_33 nk_1_5 (rAn 0 d_Le_owed_7 rfl) d_Le_owed_8 rfl) d_Le_owed_11 (by decide)))) (sIf (pn := 46) (tt := 36) (xC (rAnd (mm := 25) (rNot (rJ2 (tgt := 46) j_ne (rIa (rFr fl_Le_15 nk_1_1 (rAn 0 d_Le_owed_14 rfl) d_Le_owed_15) (rIl d_Le_owed_18) d_Le_owed_20) (rIn 1 d_Le_owed_21 rfl) d_Le_owed_22 (by decide))) (rNot (rJ2 (tgt := 46) j_ne (rIa (rFr fl_Le_18 nk_1_2 (rAn 0 d_Le_owed_25 rfl) d_Le_owed_26) (rIl d_Le_owed_29) d_Le_owed_31) (rIn 2 d_Le_owed_32 rfl) d_Le_owed_33 (by decide))))) (sIn 3 (xE (r2 o_add (rIn 3 d_Le_owed_36 rfl) (rIa (rFr fl_Le_21 nk_1_3 (rAn 0 d_Le_owed_37 rfl) d_Le_owed_38) (rIl d_Le_owed_41) d_Le_owed_43) d_Le_owed_44)) d_Le_owed_45 rfl (by decide))) (sGo (pn := 5) (sInc d_Le_owed_46 (by decide)) d_Le_owed_49 (by decide)))) (sRi (xE (rIn 3 d_Le_owed_52 rfl)) d_Le_owed_53 rfl))))
noncomputable def f_Le_owed : List zV → zMem → Int
  | [.inr (.inr (.inl q0)), .inl a, .inl b], μ => owL a b (dbD μ)
  | _, _ => 0
def g_Le_owed : List zV → zMem → Prop
  | [.inr (.inr (.inl q0)), .inl a, .inl b], μ => q0 = 2 ∧ (okT (μ 2 5) (fD μ))
  | _, _ => False
theorem p_Le_owed : zPu y_Le_owed 1 f_Le_owed g_Le_owed := by
  intro as μ h
  unfold g_Le_owed at h
  split at h
  · next q0 a b =>
    obtain ⟨rfl, h⟩ := h
    refine zSp.ss [vr 2, vi a, vi b, vx 0, vx 0] rfl (w_Le_owed (Nat.le_refl _)) rfl rfl ?_
    have hn := h.1
    (try simp only [zit_e, Bool.and_eq_true, Bool.or_eq_true, Bool.not_eq_true', Bool.and_eq_false_iff, Bool.or_eq_false_iff, Bool.not_eq_false', zbe, zdt, zdf, zb2_p, zbp_0, zbp_1, zbp_inj, zbp_01, Bool.true_eq_false, Bool.false_eq_true, true_and, and_true, Decidable.not_not, Classical.not_not, implies_true, List.nil_append, List.cons_append, List.append_assoc, Option.some.injEq, Sum.inl.injEq, zSw_c, zSw_n]); (try simp only [zit_e, Bool.and_eq_true, Bool.or_eq_true, Bool.not_eq_true', Bool.and_eq_false_iff, Bool.or_eq_false_iff, Bool.not_eq_false', zbe, zdt, zdf, zb2_p, zbp_0, zbp_1, zbp_inj, zbp_01, Bool.true_eq_false, Bool.false_eq_true, true_and, and_true, Decidable.not_not, Classical.not_not, implies_true, List.nil_append, List.cons_append, List.append_assoc, Option.some.injEq, Sum.inl.injEq, zSw_c, zSw_n, f_Le_owed, zc_2]); (try simp only [zi_cs, zi_c0, zii_cs, zii_c0, zl_cs, zl_c0, zll_cs, zll_c0, zr_cs, zr_c0, zrr_cs, zrr_c0, zxs_cs, zxs_c0, zxx_cs, zxx_c0, zfree_c0, zfree_c1, zfree_cs, zfree_cz, zlong_i, zlong_r, zlong_x, zset_0, zset_s, true_and, and_true, Option.some.injEq, Sum.inl.injEq, Sum.inr.injEq, zb2_p, zbp_0, zbp_1, zbp_inj, zbp_01, Nat.zero_add, Nat.reduceAdd, implies_true, List.nil_append, List.cons_append, List.append_assoc, Int.not_lt, Int.not_le, Decidable.not_not, Int.zero_add, Int.reduceLE, Int.reduceLT, Int.reduceEq, Int.reduceNe, Int.reduceAdd, Int.reduceSub, Int.reduceMul, Int.reduceNeg, Int.reduceToNat, Nat.reduceMul, Nat.reduceLT, Nat.reduceEqDiff, and_self, ite_true, ite_false, zx1, zx2, zRecv, List.length_cons, List.length_nil, ne_eq, not_true_eq_false, not_false_eq_true, true_or, or_true, or_false, false_or, and_false, false_and, zf01, zf10, reduceCtorEq, zSw_c, zSw_n, zm_r, zit_T, zit_F, false_implies, true_implies, f_Le_owed, zc_2])
    refine zLoop.up (μ 2 5).toNat (fun j ρ μ1 => ρ = [vr 2, vi a, vi b, vi (owL a b (tL j (fD μ))), vi j] ∧ μ = μ1) ⟨rfl, rfl⟩ ?_
    rintro j ρ μ1 hj ⟨rfl, rfl⟩
    (try simp only [zit_e, Bool.and_eq_true, Bool.or_eq_true, Bool.not_eq_true', Bool.and_eq_false_iff, Bool.or_eq_false_iff, Bool.not_eq_false', zbe, zdt, zdf, zb2_p, zbp_0, zbp_1, zbp_inj, zbp_01, Bool.true_eq_false, Bool.false_eq_true, true_and, and_true, Decidable.not_not, Classical.not_not, implies_true, List.nil_append, List.cons_append, List.append_assoc, Option.some.injEq, Sum.inl.injEq, zSw_c, zSw_n]); (try simp only [zit_e, Bool.and_eq_true, Bool.or_eq_true, Bool.not_eq_true', Bool.and_eq_false_iff, Bool.or_eq_false_iff, Bool.not_eq_false', zbe, zdt, zdf, zb2_p, zbp_0, zbp_1, zbp_inj, zbp_01, Bool.true_eq_false, Bool.false_eq_true, true_and, and_true, Decidable.not_not, Classical.not_not, implies_true, List.nil_append, List.cons_append, List.append_assoc, Option.some.injEq, Sum.inl.injEq, zSw_c, zSw_n, zc_2]); (try simp only [zi_cs, zi_c0, zii_cs, zii_c0, zl_cs, zl_c0, zll_cs, zll_c0, zr_cs, zr_c0, zrr_cs, zrr_c0, zxs_cs, zxs_c0, zxx_cs, zxx_c0, zfree_c0, zfree_c1, zfree_cs, zfree_cz, zlong_i, zlong_r, zlong_x, zset_0, zset_s, true_and, and_true, Option.some.injEq, Sum.inl.injEq, Sum.inr.injEq, zb2_p, zbp_0, zbp_1, zbp_inj, zbp_01, Nat.zero_add, Nat.reduceAdd, implies_true, List.nil_append, List.cons_append, List.append_assoc, Int.not_lt, Int.not_le, Decidable.not_not, Int.zero_add, Int.reduceLE, Int.reduceLT, Int.reduceEq, Int.reduceNe, Int.reduceAdd, Int.reduceSub, Int.reduceMul, Int.reduceNeg, Int.reduceToNat, Nat.reduceMul, Nat.reduceLT, Nat.reduceEqDiff, and_self, ite_true, ite_false, zx1, zx2, zRecv, List.length_cons, List.length_nil, ne_eq, not_true_eq_false, not_false_eq_true, true_or, or_true, or_false, false_or, and_false, false_and, zf01, zf10, reduceCtorEq, zSw_c, zSw_n, zm_r, zit_T, zit_F, false_implies, true_implies, zc_2])
    refine zif (fun c => ?_) (fun c => ?_)
    · have hb := owL_in (a := a) (b := b) h (j + 1) (by omega)
      have hc : (j : Int) < 16 := by omega
      have hs := owL_s (a := a) (b := b) (n := j) (f := fD μ)
      refine ⟨⟨⟨by omega, hc⟩, fun _ => ⟨by omega, hc⟩⟩, ?_⟩
      refine zif (fun e => ?_) (fun e => ?_)
      · rw [if_pos e] at hs
        have hs : owL a b (tL (j + 1) (fD μ)) = owL a b (tL j (fD μ)) + μ 6 j := hs
        rw [← hs]
        exact ⟨⟨⟨by omega, hc⟩, zI_s (by omega) (by omega)⟩, zI_s (by omega) (by omega), znx (by omega) rfl⟩
      · rw [if_neg e] at hs
        rw [Int.add_zero] at hs
        exact ⟨zI_s (by omega) (by omega), znx (by omega) (by rw [hs]; rfl)⟩
    · have e : j = (μ 2 5).toNat := by omega
      rw [e, dbD]
  · exact h.elim
def y_Le_balanceOf : zMt := (⟨"DebtDoors$Ledger", "balanceOf", "(I)I"⟩, prog_3_method_5_code, 4, some .int)
theorem d_Le_balanceOf_0 : decode prog_3_method_5_code 0 = .ok (.iconst 0, 1) := by decide +kernel
theorem d_Le_balanceOf_1 : decode prog_3_method_5_code 1 = .ok (.istore_n 2, 1) := by decide +kernel
theorem d_Le_balanceOf_2 : decode prog_3_method_5_code 2 = .ok (.iconst 0, 1) := by decide +kernel
theorem d_Le_balanceOf_3 : decode prog_3_method_5_code 3 = .ok (.istore_n 3, 1) := by decide +kernel
theorem d_Le_balanceOf_4 : decode prog_3_method_5_code 4 = .ok (.iload_n 3, 1) := by decide +kernel
theorem d_Le_balanceOf_5 : decode prog_3_method_5_code 5 = .ok (.aload_n 0, 1) := by decide +kernel
theorem d_Le_balanceOf_6 : decode prog_3_method_5_code 6 = .ok (.getfield 33, 3) := by decide +kernel
theorem d_Le_balanceOf_9 : decode prog_3_method_5_code 9 = .ok (.if_icmp .ge 50, 3) := by decide +kernel
theorem d_Le_balanceOf_12 : decode prog_3_method_5_code 12 = .ok (.aload_n 0, 1) := by decide +kernel
theorem d_Le_balanceOf_13 : decode prog_3_method_5_code 13 = .ok (.getfield 18, 3) := by decide +kernel
theorem d_Le_balanceOf_16 : decode prog_3_method_5_code 16 = .ok (.iload_n 3, 1) := by decide +kernel
theorem d_Le_balanceOf_17 : decode prog_3_method_5_code 17 = .ok (.iaload, 1) := by decide +kernel
theorem d_Le_balanceOf_18 : decode prog_3_method_5_code 18 = .ok (.iload_n 1, 1) := by decide +kernel
theorem d_Le_balanceOf_19 : decode prog_3_method_5_code 19 = .ok (.if_icmp .ne 15, 3) := by decide +kernel
theorem d_Le_balanceOf_22 : decode prog_3_method_5_code 22 = .ok (.iload_n 2, 1) := by decide +kernel
theorem d_Le_balanceOf_23 : decode prog_3_method_5_code 23 = .ok (.aload_n 0, 1) := by decide +kernel
theorem d_Le_balanceOf_24 : decode prog_3_method_5_code 24 = .ok (.getfield 21, 3) := by decide +kernel
theorem d_Le_balanceOf_27 : decode prog_3_method_5_code 27 = .ok (.iload_n 3, 1) := by decide +kernel
theorem d_Le_balanceOf_28 : decode prog_3_method_5_code 28 = .ok (.iaload, 1) := by decide +kernel
theorem d_Le_balanceOf_29 : decode prog_3_method_5_code 29 = .ok (.iadd, 1) := by decide +kernel
theorem d_Le_balanceOf_30 : decode prog_3_method_5_code 30 = .ok (.istore_n 2, 1) := by decide +kernel
theorem d_Le_balanceOf_31 : decode prog_3_method_5_code 31 = .ok (.goto 22, 3) := by decide +kernel
theorem d_Le_balanceOf_34 : decode prog_3_method_5_code 34 = .ok (.aload_n 0, 1) := by decide +kernel
theorem d_Le_balanceOf_35 : decode prog_3_method_5_code 35 = .ok (.getfield 15, 3) := by decide +kernel
theorem d_Le_balanceOf_38 : decode prog_3_method_5_code 38 = .ok (.iload_n 3, 1) := by decide +kernel
theorem d_Le_balanceOf_39 : decode prog_3_method_5_code 39 = .ok (.iaload, 1) := by decide +kernel
theorem d_Le_balanceOf_40 : decode prog_3_method_5_code 40 = .ok (.iload_n 1, 1) := by decide +kernel
theorem d_Le_balanceOf_41 : decode prog_3_method_5_code 41 = .ok (.if_icmp .ne 12, 3) := by decide +kernel
theorem d_Le_balanceOf_44 : decode prog_3_method_5_code 44 = .ok (.iload_n 2, 1) := by decide +kernel
theorem d_Le_balanceOf_45 : decode prog_3_method_5_code 45 = .ok (.aload_n 0, 1) := by decide +kernel
theorem d_Le_balanceOf_46 : decode prog_3_method_5_code 46 = .ok (.getfield 21, 3) := by decide +kernel
theorem d_Le_balanceOf_49 : decode prog_3_method_5_code 49 = .ok (.iload_n 3, 1) := by decide +kernel
theorem d_Le_balanceOf_50 : decode prog_3_method_5_code 50 = .ok (.iaload, 1) := by decide +kernel
theorem d_Le_balanceOf_51 : decode prog_3_method_5_code 51 = .ok (.isub, 1) := by decide +kernel
theorem d_Le_balanceOf_52 : decode prog_3_method_5_code 52 = .ok (.istore_n 2, 1) := by decide +kernel
theorem d_Le_balanceOf_53 : decode prog_3_method_5_code 53 = .ok (.iinc 3 1, 3) := by decide +kernel
theorem d_Le_balanceOf_56 : decode prog_3_method_5_code 56 = .ok (.goto (-52), 3) := by decide +kernel
theorem d_Le_balanceOf_59 : decode prog_3_method_5_code 59 = .ok (.iload_n 2, 1) := by decide +kernel
theorem d_Le_balanceOf_60 : decode prog_3_method_5_code 60 = .ok (.ireturn, 1) := by decide +kernel
def w_Le_balanceOf {d : Nat} (hd : 1 ≤ d) := (show SS ("DebtDoors$Ledger", prog_3_method_5_code, 4) (some .int) d 0 0 0 0 _ from (sS (p1 := 2) (sIn 2 (xE (rI d_Le_balanceOf_0 rfl)) d_Le_balanceOf_1 rfl (by decide)) (sS (p1 := 59) (sS (p1 := 4) (sIn 3 (xE (rI d_Le_balanceOf_2 rfl)) d_Le_balanceOf_3 rfl (by decide)) (sLp (ps := 53) (tt := 12) (pn := 59) (p1 := 0) (p2 := 0) (xC (rNot (rJ2 (tgt := 59) j_ge (rIn 3 d_Le_balanceOf_4 rfl) (rF 5 fl_Le_33 nk_1_5 (rAn 0 d_Le_balanceOf_5 rfl) d_Le_balanceOf_6 rfl) d_Le_balanceOf_9 (by decide)))) (sIe (pn := 53) (tt := 22) (ff := 34) (xC (rNot (rJ2 (tgt := 34) j_ne (rIa (rFr fl_Le_18 nk_1_2 (rAn 0 d_Le_balanceOf_12 rfl) d_Le_balanceOf_13) (rIn 3 d_Le_balanceOf_16 rfl) d_Le_balanceOf_17) (rIn 1 d_Le_balanceOf_18 rfl) d_Le_balanceOf_19 (by decide)))) (sGo (pn := 53) (sIn 2 (xE (r2 o_add (rIn 2 d_Le_balanceOf_22 rfl) (rIa (rFr fl_Le_21 nk_1_3 (rAn 0 d_Le_balanceOf_23 rfl) d_Le_balanceOf_24) (rIn 3 d_Le_balanceOf_27 rfl) d_Le_balanceOf_28) d_Le_balanceOf_29)) d_Le_balanceOf_30 rfl (by decide)) d_Le_balanceOf_31 (by decide)) (sIf (pn := 53) (tt := 44) (xC (rNot (rJ2 (tgt := 53) j_ne (rIa (rFr fl_Le_15 nk_1_1 (rAn 0 d_Le_balanceOf_34 rfl) d_Le_balanceOf_35) (rIn 3 d_Le_balanceOf_38 rfl) d_Le_balanceOf_39) (rIn 1 d_Le_balanceOf_40 rfl) d_Le_balanceOf_41 (by decide)))) (sIn 2 (xE (r2 o_sub (rIn 2 d_Le_balanceOf_44 rfl) (rIa (rFr fl_Le_21 nk_1_3 (rAn 0 d_Le_balanceOf_45 rfl) d_Le_balanceOf_46) (rIn 3 d_Le_balanceOf_49 rfl) d_Le_balanceOf_50) d_Le_balanceOf_51)) d_Le_balanceOf_52 rfl (by decide)))) (sGo (pn := 4) (sInc d_Le_balanceOf_53 (by decide)) d_Le_balanceOf_56 (by decide)))) (sRi (xE (rIn 2 d_Le_balanceOf_59 rfl)) d_Le_balanceOf_60 rfl))))
noncomputable def f_Le_balanceOf : List zV → zMem → Int
  | [.inr (.inr (.inl q0)), .inl p], μ => blL p (dbD μ)
  | _, _ => 0
def g_Le_balanceOf : List zV → zMem → Prop
  | [.inr (.inr (.inl q0)), .inl p], μ => q0 = 2 ∧ (okT (μ 2 5) (fD μ))
  | _, _ => False
theorem p_Le_balanceOf : zPu y_Le_balanceOf 1 f_Le_balanceOf g_Le_balanceOf := by
  intro as μ h
  unfold g_Le_balanceOf at h
  split at h
  · next q0 p =>
    obtain ⟨rfl, h⟩ := h
    refine zSp.ss [vr 2, vi p, vx 0, vx 0] rfl (w_Le_balanceOf (Nat.le_refl _)) rfl rfl ?_
    have hn := h.1
    (try simp only [zit_e, Bool.and_eq_true, Bool.or_eq_true, Bool.not_eq_true', Bool.and_eq_false_iff, Bool.or_eq_false_iff, Bool.not_eq_false', zbe, zdt, zdf, zb2_p, zbp_0, zbp_1, zbp_inj, zbp_01, Bool.true_eq_false, Bool.false_eq_true, true_and, and_true, Decidable.not_not, Classical.not_not, implies_true, List.nil_append, List.cons_append, List.append_assoc, Option.some.injEq, Sum.inl.injEq, zSw_c, zSw_n]); (try simp only [zit_e, Bool.and_eq_true, Bool.or_eq_true, Bool.not_eq_true', Bool.and_eq_false_iff, Bool.or_eq_false_iff, Bool.not_eq_false', zbe, zdt, zdf, zb2_p, zbp_0, zbp_1, zbp_inj, zbp_01, Bool.true_eq_false, Bool.false_eq_true, true_and, and_true, Decidable.not_not, Classical.not_not, implies_true, List.nil_append, List.cons_append, List.append_assoc, Option.some.injEq, Sum.inl.injEq, zSw_c, zSw_n, f_Le_balanceOf, zc_2]); (try simp only [zi_cs, zi_c0, zii_cs, zii_c0, zl_cs, zl_c0, zll_cs, zll_c0, zr_cs, zr_c0, zrr_cs, zrr_c0, zxs_cs, zxs_c0, zxx_cs, zxx_c0, zfree_c0, zfree_c1, zfree_cs, zfree_cz, zlong_i, zlong_r, zlong_x, zset_0, zset_s, true_and, and_true, Option.some.injEq, Sum.inl.injEq, Sum.inr.injEq, zb2_p, zbp_0, zbp_1, zbp_inj, zbp_01, Nat.zero_add, Nat.reduceAdd, implies_true, List.nil_append, List.cons_append, List.append_assoc, Int.not_lt, Int.not_le, Decidable.not_not, Int.zero_add, Int.reduceLE, Int.reduceLT, Int.reduceEq, Int.reduceNe, Int.reduceAdd, Int.reduceSub, Int.reduceMul, Int.reduceNeg, Int.reduceToNat, Nat.reduceMul, Nat.reduceLT, Nat.reduceEqDiff, and_self, ite_true, ite_false, zx1, zx2, zRecv, List.length_cons, List.length_nil, ne_eq, not_true_eq_false, not_false_eq_true, true_or, or_true, or_false, false_or, and_false, false_and, zf01, zf10, reduceCtorEq, zSw_c, zSw_n, zm_r, zit_T, zit_F, false_implies, true_implies, f_Le_balanceOf, zc_2])
    refine zLoop.up (μ 2 5).toNat (fun j ρ μ1 => ρ = [vr 2, vi p, vi (blL p (tL j (fD μ))), vi j] ∧ μ = μ1) ⟨rfl, rfl⟩ ?_
    rintro j ρ μ1 hj ⟨rfl, rfl⟩
    (try simp only [zit_e, Bool.and_eq_true, Bool.or_eq_true, Bool.not_eq_true', Bool.and_eq_false_iff, Bool.or_eq_false_iff, Bool.not_eq_false', zbe, zdt, zdf, zb2_p, zbp_0, zbp_1, zbp_inj, zbp_01, Bool.true_eq_false, Bool.false_eq_true, true_and, and_true, Decidable.not_not, Classical.not_not, implies_true, List.nil_append, List.cons_append, List.append_assoc, Option.some.injEq, Sum.inl.injEq, zSw_c, zSw_n]); (try simp only [zit_e, Bool.and_eq_true, Bool.or_eq_true, Bool.not_eq_true', Bool.and_eq_false_iff, Bool.or_eq_false_iff, Bool.not_eq_false', zbe, zdt, zdf, zb2_p, zbp_0, zbp_1, zbp_inj, zbp_01, Bool.true_eq_false, Bool.false_eq_true, true_and, and_true, Decidable.not_not, Classical.not_not, implies_true, List.nil_append, List.cons_append, List.append_assoc, Option.some.injEq, Sum.inl.injEq, zSw_c, zSw_n, zc_2]); (try simp only [zi_cs, zi_c0, zii_cs, zii_c0, zl_cs, zl_c0, zll_cs, zll_c0, zr_cs, zr_c0, zrr_cs, zrr_c0, zxs_cs, zxs_c0, zxx_cs, zxx_c0, zfree_c0, zfree_c1, zfree_cs, zfree_cz, zlong_i, zlong_r, zlong_x, zset_0, zset_s, true_and, and_true, Option.some.injEq, Sum.inl.injEq, Sum.inr.injEq, zb2_p, zbp_0, zbp_1, zbp_inj, zbp_01, Nat.zero_add, Nat.reduceAdd, implies_true, List.nil_append, List.cons_append, List.append_assoc, Int.not_lt, Int.not_le, Decidable.not_not, Int.zero_add, Int.reduceLE, Int.reduceLT, Int.reduceEq, Int.reduceNe, Int.reduceAdd, Int.reduceSub, Int.reduceMul, Int.reduceNeg, Int.reduceToNat, Nat.reduceMul, Nat.reduceLT, Nat.reduceEqDiff, and_self, ite_true, ite_false, zx1, zx2, zRecv, List.length_cons, List.length_nil, ne_eq, not_true_eq_false, not_false_eq_true, true_or, or_true, or_false, false_or, and_false, false_and, zf01, zf10, reduceCtorEq, zSw_c, zSw_n, zm_r, zit_T, zit_F, false_implies, true_implies, zc_2])
    refine zif (fun c => ?_) (fun c => ?_)
    · have hb := blL_in (p := p) h (j + 1) (by omega)
      have hc : (j : Int) < 16 := by omega
      have hs := blL_s (p := p) (n := j) (f := fD μ)
      refine ⟨⟨by omega, hc⟩, ?_⟩
      refine zif (fun e => ?_) (fun e => ?_)
      · rw [if_pos e] at hs
        have hs : blL p (tL (j + 1) (fD μ)) = blL p (tL j (fD μ)) + μ 6 j := hs
        rw [← hs]
        exact ⟨⟨⟨by omega, hc⟩, zI_s (by omega) (by omega)⟩, zI_s (by omega) (by omega), znx (by omega) rfl⟩
      · rw [if_neg e] at hs
        refine ⟨⟨by omega, hc⟩, ?_⟩
        refine zif (fun e2 => ?_) (fun e2 => ?_)
        · rw [if_pos e2] at hs
          have hs : blL p (tL (j + 1) (fD μ)) = blL p (tL j (fD μ)) - μ 6 j := hs
          rw [← hs]
          exact ⟨⟨⟨by omega, hc⟩, zI_s (by omega) (by omega)⟩, zI_s (by omega) (by omega), znx (by omega) rfl⟩
        · rw [if_neg e2, Int.add_zero] at hs
          exact ⟨zI_s (by omega) (by omega), znx (by omega) (by rw [hs]; rfl)⟩
    · have e : j = (μ 2 5).toNat := by omega
      rw [e, dbD]
  · exact h.elim
theorem m_M_isOf : Cond.instanceMethod y_M_isOf.1 ∈ zTb ∧ Cond.selects y_M_isOf.1.cls y_M_isOf.1 y_M_isOf.1 ∈ zTb ∧ Cond.initialized y_M_isOf.1.cls ∈ zTb ∧ Cond.code y_M_isOf.1 y_M_isOf.2.1 y_M_isOf.2.2.1 y_M_isOf.2.2.2 ∈ zTb ∧ (y_M_isOf.1.cls ≠ "java/lang/invoke/MethodHandle" ∧ y_M_isOf.1.cls ≠ "java/lang/invoke/VarHandle" ∧ (parseMethodDescriptor y_M_isOf.1.desc).map (fun d => d.parameters.length) = some 3) ∧ y_M_isOf.2.2.1 ≤ 20 :=
  ⟨(zTb_in 1604 (by decide +kernel) (by decide +kernel)), (List.mem_filter.mpr ⟨List.mem_append_left _ (by decide +kernel), by decide +kernel⟩), (zTb_in 151 (by decide +kernel) (by decide +kernel)), (zTb_in 1605 (by decide +kernel) (by decide +kernel)), by decide +kernel, by decide +kernel⟩
theorem lv_M_166 : zLv "DebtDoorsModel" 166 y_M_isOf 3 12 := ⟨⟨(zTb_in 1602 (by decide +kernel) (by decide +kernel)), m_M_isOf.1, m_M_isOf.2.1, m_M_isOf.2.2⟩, _, rfl, rfl⟩
def y_M_owed : zMt := (⟨"DebtDoorsModel", "owed", "(II)I"⟩, prog_14_method_29_code, 5, some .int)
theorem d_M_owed_0 : decode prog_14_method_29_code 0 = .ok (.iconst 0, 1) := by decide +kernel
theorem d_M_owed_1 : decode prog_14_method_29_code 1 = .ok (.istore_n 3, 1) := by decide +kernel
theorem d_M_owed_2 : decode prog_14_method_29_code 2 = .ok (.iconst 0, 1) := by decide +kernel
theorem d_M_owed_3 : decode prog_14_method_29_code 3 = .ok (.istore 4, 2) := by decide +kernel
theorem d_M_owed_5 : decode prog_14_method_29_code 5 = .ok (.iload 4, 2) := by decide +kernel
theorem d_M_owed_7 : decode prog_14_method_29_code 7 = .ok (.aload_n 0, 1) := by decide +kernel
theorem d_M_owed_8 : decode prog_14_method_29_code 8 = .ok (.invokevirtual 137, 3) := by decide +kernel
theorem d_M_owed_11 : decode prog_14_method_29_code 11 = .ok (.if_icmp .ge 41, 3) := by decide +kernel
theorem d_M_owed_14 : decode prog_14_method_29_code 14 = .ok (.iload_n 3, 1) := by decide +kernel
theorem d_M_owed_15 : decode prog_14_method_29_code 15 = .ok (.aload_n 0, 1) := by decide +kernel
theorem d_M_owed_16 : decode prog_14_method_29_code 16 = .ok (.iload 4, 2) := by decide +kernel
theorem d_M_owed_18 : decode prog_14_method_29_code 18 = .ok (.iload_n 1, 1) := by decide +kernel
theorem d_M_owed_19 : decode prog_14_method_29_code 19 = .ok (.iload_n 2, 1) := by decide +kernel
theorem d_M_owed_20 : decode prog_14_method_29_code 20 = .ok (.invokevirtual 166, 3) := by decide +kernel
theorem d_M_owed_23 : decode prog_14_method_29_code 23 = .ok (.ifCond .eq 20, 3) := by decide +kernel
theorem d_M_owed_26 : decode prog_14_method_29_code 26 = .ok (.aload_n 0, 1) := by decide +kernel
theorem d_M_owed_27 : decode prog_14_method_29_code 27 = .ok (.getfield 24, 3) := by decide +kernel
theorem d_M_owed_30 : decode prog_14_method_29_code 30 = .ok (.bipush 7, 2) := by decide +kernel
theorem d_M_owed_32 : decode prog_14_method_29_code 32 = .ok (.iconst 4, 1) := by decide +kernel
theorem d_M_owed_33 : decode prog_14_method_29_code 33 = .ok (.iload 4, 2) := by decide +kernel
theorem d_M_owed_35 : decode prog_14_method_29_code 35 = .ok (.imul, 1) := by decide +kernel
theorem d_M_owed_36 : decode prog_14_method_29_code 36 = .ok (.iadd, 1) := by decide +kernel
theorem d_M_owed_37 : decode prog_14_method_29_code 37 = .ok (.iconst 2, 1) := by decide +kernel
theorem d_M_owed_38 : decode prog_14_method_29_code 38 = .ok (.iadd, 1) := by decide +kernel
theorem d_M_owed_39 : decode prog_14_method_29_code 39 = .ok (.iaload, 1) := by decide +kernel
theorem d_M_owed_40 : decode prog_14_method_29_code 40 = .ok (.goto 4, 3) := by decide +kernel
theorem d_M_owed_43 : decode prog_14_method_29_code 43 = .ok (.iconst 0, 1) := by decide +kernel
theorem d_M_owed_44 : decode prog_14_method_29_code 44 = .ok (.iadd, 1) := by decide +kernel
theorem d_M_owed_45 : decode prog_14_method_29_code 45 = .ok (.istore_n 3, 1) := by decide +kernel
theorem d_M_owed_46 : decode prog_14_method_29_code 46 = .ok (.iinc 4 1, 3) := by decide +kernel
theorem d_M_owed_49 : decode prog_14_method_29_code 49 = .ok (.goto (-44), 3) := by decide +kernel
theorem d_M_owed_52 : decode prog_14_method_29_code 52 = .ok (.iload_n 3, 1) := by decide +kernel
theorem d_M_owed_53 : decode prog_14_method_29_code 53 = .ok (.ireturn, 1) := by decide +kernel
def w_M_owed {d : Nat} (hd : 2 ≤ d) := (show SS ("DebtDoorsModel", prog_14_method_29_code, 5) (some .int) d 0 0 0 0 _ from (sS (p1 := 2) (sIn 3 (xE (rI d_M_owed_0 rfl)) d_M_owed_1 rfl (by decide)) (sS (p1 := 52) (sS (p1 := 5) (sI (xE (rI d_M_owed_2 rfl)) d_M_owed_3 (by decide)) (sLp (ps := 46) (tt := 14) (pn := 52) (p1 := 0) (p2 := 0) (xC (rNot (rJ2 (tgt := 52) j_ge (rIl d_M_owed_5) (rV p_M_debts (Nat.le_trans (Nat.le_of_ble_eq_true rfl) hd) lv_M_137 (rAr rA0 (rAn 0 d_M_owed_7 rfl)) (by decide) d_M_owed_8) d_M_owed_11 (by decide)))) (sIn 3 (xE (r2 o_add (rIn 3 d_M_owed_14 rfl) (rT2 (rNot (rJ1 (tgt := 43) k_eq (rV p_M_isOf (Nat.le_trans (Nat.le_of_ble_eq_true rfl) hd) lv_M_166 (rAi (rAi (rAi (rAr rA0 (rAn 0 d_M_owed_15 rfl)) (rIl d_M_owed_16)) (rIn 1 d_M_owed_18 rfl)) (rIn 2 d_M_owed_19 rfl)) (by decide) d_M_owed_20) d_M_owed_23 (by decide))) (rGoE (p2 := 44) (rIa (rFr fl_M_24 nk_12_2 (rAn 0 d_M_owed_26 rfl) d_M_owed_27) (r2 o_add (r2 o_add (rB d_M_owed_30 rfl) (r2 o_mul (rI d_M_owed_32 rfl) (rIl d_M_owed_33) d_M_owed_35) d_M_owed_36) (rI d_M_owed_37 rfl) d_M_owed_38) d_M_owed_39) d_M_owed_40 (by decide)) (rI d_M_owed_43 rfl)) d_M_owed_44)) d_M_owed_45 rfl (by decide)) (sGo (pn := 5) (sInc d_M_owed_46 (by decide)) d_M_owed_49 (by decide)))) (sRi (xE (rIn 3 d_M_owed_52 rfl)) d_M_owed_53 rfl))))
noncomputable def f_M_owed : List zV → zMem → Int
  | [.inr (.inr (.inl q0)), .inl a, .inl b], μ => owL a b (dbM μ)
  | _, _ => 0
def g_M_owed : List zV → zMem → Prop
  | [.inr (.inr (.inl q0)), .inl a, .inl b], μ => q0 = 355 ∧ (okT (μ 357 71) (fM μ))
  | _, _ => False
theorem p_M_owed : zPu y_M_owed 2 f_M_owed g_M_owed := by
  intro as μ h
  unfold g_M_owed at h
  split at h
  · next q0 a b =>
    obtain ⟨rfl, h⟩ := h
    refine zSp.ss [vr 355, vi a, vi b, vx 0, vx 0] rfl (w_M_owed (Nat.le_refl _)) rfl rfl ?_
    have hn := h.1
    (try simp only [zit_e, Bool.and_eq_true, Bool.or_eq_true, Bool.not_eq_true', Bool.and_eq_false_iff, Bool.or_eq_false_iff, Bool.not_eq_false', zbe, zdt, zdf, zb2_p, zbp_0, zbp_1, zbp_inj, zbp_01, Bool.true_eq_false, Bool.false_eq_true, true_and, and_true, Decidable.not_not, Classical.not_not, implies_true, List.nil_append, List.cons_append, List.append_assoc, Option.some.injEq, Sum.inl.injEq, zSw_c, zSw_n]); (try simp only [zit_e, Bool.and_eq_true, Bool.or_eq_true, Bool.not_eq_true', Bool.and_eq_false_iff, Bool.or_eq_false_iff, Bool.not_eq_false', zbe, zdt, zdf, zb2_p, zbp_0, zbp_1, zbp_inj, zbp_01, Bool.true_eq_false, Bool.false_eq_true, true_and, and_true, Decidable.not_not, Classical.not_not, implies_true, List.nil_append, List.cons_append, List.append_assoc, Option.some.injEq, Sum.inl.injEq, zSw_c, zSw_n, f_M_owed, zc_355]); (try simp only [zi_cs, zi_c0, zii_cs, zii_c0, zl_cs, zl_c0, zll_cs, zll_c0, zr_cs, zr_c0, zrr_cs, zrr_c0, zxs_cs, zxs_c0, zxx_cs, zxx_c0, zfree_c0, zfree_c1, zfree_cs, zfree_cz, zlong_i, zlong_r, zlong_x, zset_0, zset_s, true_and, and_true, Option.some.injEq, Sum.inl.injEq, Sum.inr.injEq, zb2_p, zbp_0, zbp_1, zbp_inj, zbp_01, Nat.zero_add, Nat.reduceAdd, implies_true, List.nil_append, List.cons_append, List.append_assoc, Int.not_lt, Int.not_le, Decidable.not_not, Int.zero_add, Int.reduceLE, Int.reduceLT, Int.reduceEq, Int.reduceNe, Int.reduceAdd, Int.reduceSub, Int.reduceMul, Int.reduceNeg, Int.reduceToNat, Nat.reduceMul, Nat.reduceLT, Nat.reduceEqDiff, and_self, ite_true, ite_false, zx1, zx2, zRecv, List.length_cons, List.length_nil, ne_eq, not_true_eq_false, not_false_eq_true, true_or, or_true, or_false, false_or, and_false, false_and, zf01, zf10, reduceCtorEq, zSw_c, zSw_n, zm_r, zit_T, zit_F, false_implies, true_implies, f_M_owed, zc_355])
    refine zLoop.up (μ 357 71).toNat (fun j ρ μ1 => ρ = [vr 355, vi a, vi b, vi (owL a b (tL j (fM μ))), vi j] ∧ μ = μ1) ⟨rfl, rfl⟩ ?_
    rintro j ρ μ1 hj ⟨rfl, rfl⟩
    (try simp only [zit_e, Bool.and_eq_true, Bool.or_eq_true, Bool.not_eq_true', Bool.and_eq_false_iff, Bool.or_eq_false_iff, Bool.not_eq_false', zbe, zdt, zdf, zb2_p, zbp_0, zbp_1, zbp_inj, zbp_01, Bool.true_eq_false, Bool.false_eq_true, true_and, and_true, Decidable.not_not, Classical.not_not, implies_true, List.nil_append, List.cons_append, List.append_assoc, Option.some.injEq, Sum.inl.injEq, zSw_c, zSw_n]); (try simp only [zit_e, Bool.and_eq_true, Bool.or_eq_true, Bool.not_eq_true', Bool.and_eq_false_iff, Bool.or_eq_false_iff, Bool.not_eq_false', zbe, zdt, zdf, zb2_p, zbp_0, zbp_1, zbp_inj, zbp_01, Bool.true_eq_false, Bool.false_eq_true, true_and, and_true, Decidable.not_not, Classical.not_not, implies_true, List.nil_append, List.cons_append, List.append_assoc, Option.some.injEq, Sum.inl.injEq, zSw_c, zSw_n, zc_355, f_M_debts, g_M_debts, f_M_isOf, g_M_isOf]); (try simp only [zi_cs, zi_c0, zii_cs, zii_c0, zl_cs, zl_c0, zll_cs, zll_c0, zr_cs, zr_c0, zrr_cs, zrr_c0, zxs_cs, zxs_c0, zxx_cs, zxx_c0, zfree_c0, zfree_c1, zfree_cs, zfree_cz, zlong_i, zlong_r, zlong_x, zset_0, zset_s, true_and, and_true, Option.some.injEq, Sum.inl.injEq, Sum.inr.injEq, zb2_p, zbp_0, zbp_1, zbp_inj, zbp_01, Nat.zero_add, Nat.reduceAdd, implies_true, List.nil_append, List.cons_append, List.append_assoc, Int.not_lt, Int.not_le, Decidable.not_not, Int.zero_add, Int.reduceLE, Int.reduceLT, Int.reduceEq, Int.reduceNe, Int.reduceAdd, Int.reduceSub, Int.reduceMul, Int.reduceNeg, Int.reduceToNat, Nat.reduceMul, Nat.reduceLT, Nat.reduceEqDiff, and_self, ite_true, ite_false, zx1, zx2, zRecv, List.length_cons, List.length_nil, ne_eq, not_true_eq_false, not_false_eq_true, true_or, or_true, or_false, false_or, and_false, false_and, zf01, zf10, reduceCtorEq, zSw_c, zSw_n, zm_r, zit_T, zit_F, false_implies, true_implies, zc_355, f_M_debts, g_M_debts, f_M_isOf, g_M_isOf])
    refine zif (fun c => ?_) (fun c => ?_)
    · have hb := owL_in (a := a) (b := b) h (j + 1) (by omega)
      have hs := owL_s (a := a) (b := b) (n := j) (f := fM μ)
      have hs : owL a b (tL (j + 1) (fM μ)) = owL a b (tL j (fM μ)) + if μ 357 (7 + 4 * (j : Int)) = a ∧ μ 357 (7 + 4 * (j : Int) + 1) = b then μ 357 (7 + 4 * (j : Int) + 2) else 0 := hs
      simp only [zit_e] at hs
      rw [← hs]
      exact ⟨⟨⟨by omega, fun _ => by ((try simp only [zI_e]); (first | done | omega | skip))⟩, zI_s (by omega) (by omega)⟩, zI_s (by omega) (by omega), znx (by omega) rfl⟩
    · have e : j = (μ 357 71).toNat := by omega
      rw [e, dbM]
  · exact h.elim
def y_M_balanceOf : zMt := (⟨"DebtDoorsModel", "balanceOf", "(I)I"⟩, prog_14_method_127_code, 4, some .int)
theorem d_M_balanceOf_0 : decode prog_14_method_127_code 0 = .ok (.iconst 0, 1) := by decide +kernel
theorem d_M_balanceOf_1 : decode prog_14_method_127_code 1 = .ok (.istore_n 2, 1) := by decide +kernel
theorem d_M_balanceOf_2 : decode prog_14_method_127_code 2 = .ok (.iconst 0, 1) := by decide +kernel
theorem d_M_balanceOf_3 : decode prog_14_method_127_code 3 = .ok (.istore_n 3, 1) := by decide +kernel
theorem d_M_balanceOf_4 : decode prog_14_method_127_code 4 = .ok (.iload_n 3, 1) := by decide +kernel
theorem d_M_balanceOf_5 : decode prog_14_method_127_code 5 = .ok (.aload_n 0, 1) := by decide +kernel
theorem d_M_balanceOf_6 : decode prog_14_method_127_code 6 = .ok (.invokevirtual 137, 3) := by decide +kernel
theorem d_M_balanceOf_9 : decode prog_14_method_127_code 9 = .ok (.if_icmp .ge 78, 3) := by decide +kernel
theorem d_M_balanceOf_12 : decode prog_14_method_127_code 12 = .ok (.iload_n 2, 1) := by decide +kernel
theorem d_M_balanceOf_13 : decode prog_14_method_127_code 13 = .ok (.aload_n 0, 1) := by decide +kernel
theorem d_M_balanceOf_14 : decode prog_14_method_127_code 14 = .ok (.getfield 24, 3) := by decide +kernel
theorem d_M_balanceOf_17 : decode prog_14_method_127_code 17 = .ok (.bipush 7, 2) := by decide +kernel
theorem d_M_balanceOf_19 : decode prog_14_method_127_code 19 = .ok (.iconst 4, 1) := by decide +kernel
theorem d_M_balanceOf_20 : decode prog_14_method_127_code 20 = .ok (.iload_n 3, 1) := by decide +kernel
theorem d_M_balanceOf_21 : decode prog_14_method_127_code 21 = .ok (.imul, 1) := by decide +kernel
theorem d_M_balanceOf_22 : decode prog_14_method_127_code 22 = .ok (.iadd, 1) := by decide +kernel
theorem d_M_balanceOf_23 : decode prog_14_method_127_code 23 = .ok (.iconst 1, 1) := by decide +kernel
theorem d_M_balanceOf_24 : decode prog_14_method_127_code 24 = .ok (.iadd, 1) := by decide +kernel
theorem d_M_balanceOf_25 : decode prog_14_method_127_code 25 = .ok (.iaload, 1) := by decide +kernel
theorem d_M_balanceOf_26 : decode prog_14_method_127_code 26 = .ok (.iload_n 1, 1) := by decide +kernel
theorem d_M_balanceOf_27 : decode prog_14_method_127_code 27 = .ok (.if_icmp .ne 19, 3) := by decide +kernel
theorem d_M_balanceOf_30 : decode prog_14_method_127_code 30 = .ok (.aload_n 0, 1) := by decide +kernel
theorem d_M_balanceOf_31 : decode prog_14_method_127_code 31 = .ok (.getfield 24, 3) := by decide +kernel
theorem d_M_balanceOf_34 : decode prog_14_method_127_code 34 = .ok (.bipush 7, 2) := by decide +kernel
theorem d_M_balanceOf_36 : decode prog_14_method_127_code 36 = .ok (.iconst 4, 1) := by decide +kernel
theorem d_M_balanceOf_37 : decode prog_14_method_127_code 37 = .ok (.iload_n 3, 1) := by decide +kernel
theorem d_M_balanceOf_38 : decode prog_14_method_127_code 38 = .ok (.imul, 1) := by decide +kernel
theorem d_M_balanceOf_39 : decode prog_14_method_127_code 39 = .ok (.iadd, 1) := by decide +kernel
theorem d_M_balanceOf_40 : decode prog_14_method_127_code 40 = .ok (.iconst 2, 1) := by decide +kernel
theorem d_M_balanceOf_41 : decode prog_14_method_127_code 41 = .ok (.iadd, 1) := by decide +kernel
theorem d_M_balanceOf_42 : decode prog_14_method_127_code 42 = .ok (.iaload, 1) := by decide +kernel
theorem d_M_balanceOf_43 : decode prog_14_method_127_code 43 = .ok (.goto 36, 3) := by decide +kernel
theorem d_M_balanceOf_46 : decode prog_14_method_127_code 46 = .ok (.aload_n 0, 1) := by decide +kernel
theorem d_M_balanceOf_47 : decode prog_14_method_127_code 47 = .ok (.getfield 24, 3) := by decide +kernel
theorem d_M_balanceOf_50 : decode prog_14_method_127_code 50 = .ok (.bipush 7, 2) := by decide +kernel
theorem d_M_balanceOf_52 : decode prog_14_method_127_code 52 = .ok (.iconst 4, 1) := by decide +kernel
theorem d_M_balanceOf_53 : decode prog_14_method_127_code 53 = .ok (.iload_n 3, 1) := by decide +kernel
theorem d_M_balanceOf_54 : decode prog_14_method_127_code 54 = .ok (.imul, 1) := by decide +kernel
theorem d_M_balanceOf_55 : decode prog_14_method_127_code 55 = .ok (.iadd, 1) := by decide +kernel
theorem d_M_balanceOf_56 : decode prog_14_method_127_code 56 = .ok (.iaload, 1) := by decide +kernel
theorem d_M_balanceOf_57 : decode prog_14_method_127_code 57 = .ok (.iload_n 1, 1) := by decide +kernel
theorem d_M_balanceOf_58 : decode prog_14_method_127_code 58 = .ok (.if_icmp .ne 20, 3) := by decide +kernel
theorem d_M_balanceOf_61 : decode prog_14_method_127_code 61 = .ok (.aload_n 0, 1) := by decide +kernel
theorem d_M_balanceOf_62 : decode prog_14_method_127_code 62 = .ok (.getfield 24, 3) := by decide +kernel
theorem d_M_balanceOf_65 : decode prog_14_method_127_code 65 = .ok (.bipush 7, 2) := by decide +kernel
theorem d_M_balanceOf_67 : decode prog_14_method_127_code 67 = .ok (.iconst 4, 1) := by decide +kernel
theorem d_M_balanceOf_68 : decode prog_14_method_127_code 68 = .ok (.iload_n 3, 1) := by decide +kernel
theorem d_M_balanceOf_69 : decode prog_14_method_127_code 69 = .ok (.imul, 1) := by decide +kernel
theorem d_M_balanceOf_70 : decode prog_14_method_127_code 70 = .ok (.iadd, 1) := by decide +kernel
theorem d_M_balanceOf_71 : decode prog_14_method_127_code 71 = .ok (.iconst 2, 1) := by decide +kernel
theorem d_M_balanceOf_72 : decode prog_14_method_127_code 72 = .ok (.iadd, 1) := by decide +kernel
theorem d_M_balanceOf_73 : decode prog_14_method_127_code 73 = .ok (.iaload, 1) := by decide +kernel
theorem d_M_balanceOf_74 : decode prog_14_method_127_code 74 = .ok (.ineg, 1) := by decide +kernel
theorem d_M_balanceOf_75 : decode prog_14_method_127_code 75 = .ok (.goto 4, 3) := by decide +kernel
theorem d_M_balanceOf_78 : decode prog_14_method_127_code 78 = .ok (.iconst 0, 1) := by decide +kernel
theorem d_M_balanceOf_79 : decode prog_14_method_127_code 79 = .ok (.iadd, 1) := by decide +kernel
theorem d_M_balanceOf_80 : decode prog_14_method_127_code 80 = .ok (.istore_n 2, 1) := by decide +kernel
theorem d_M_balanceOf_81 : decode prog_14_method_127_code 81 = .ok (.iinc 3 1, 3) := by decide +kernel
theorem d_M_balanceOf_84 : decode prog_14_method_127_code 84 = .ok (.goto (-80), 3) := by decide +kernel
theorem d_M_balanceOf_87 : decode prog_14_method_127_code 87 = .ok (.iload_n 2, 1) := by decide +kernel
theorem d_M_balanceOf_88 : decode prog_14_method_127_code 88 = .ok (.ireturn, 1) := by decide +kernel
def w_M_balanceOf {d : Nat} (hd : 2 ≤ d) := (show SS ("DebtDoorsModel", prog_14_method_127_code, 4) (some .int) d 0 0 0 0 _ from (sS (p1 := 2) (sIn 2 (xE (rI d_M_balanceOf_0 rfl)) d_M_balanceOf_1 rfl (by decide)) (sS (p1 := 87) (sS (p1 := 4) (sIn 3 (xE (rI d_M_balanceOf_2 rfl)) d_M_balanceOf_3 rfl (by decide)) (sLp (ps := 81) (tt := 12) (pn := 87) (p1 := 0) (p2 := 0) (xC (rNot (rJ2 (tgt := 87) j_ge (rIn 3 d_M_balanceOf_4 rfl) (rV p_M_debts (Nat.le_trans (Nat.le_of_ble_eq_true rfl) hd) lv_M_137 (rAr rA0 (rAn 0 d_M_balanceOf_5 rfl)) (by decide) d_M_balanceOf_6) d_M_balanceOf_9 (by decide)))) (sIn 2 (xE (r2 o_add (rIn 2 d_M_balanceOf_12 rfl) (rT2 (rNot (rJ2 (tgt := 46) j_ne (rIa (rFr fl_M_24 nk_12_2 (rAn 0 d_M_balanceOf_13 rfl) d_M_balanceOf_14) (r2 o_add (r2 o_add (rB d_M_balanceOf_17 rfl) (r2 o_mul (rI d_M_balanceOf_19 rfl) (rIn 3 d_M_balanceOf_20 rfl) d_M_balanceOf_21) d_M_balanceOf_22) (rI d_M_balanceOf_23 rfl) d_M_balanceOf_24) d_M_balanceOf_25) (rIn 1 d_M_balanceOf_26 rfl) d_M_balanceOf_27 (by decide))) (rGoE (p2 := 79) (rIa (rFr fl_M_24 nk_12_2 (rAn 0 d_M_balanceOf_30 rfl) d_M_balanceOf_31) (r2 o_add (r2 o_add (rB d_M_balanceOf_34 rfl) (r2 o_mul (rI d_M_balanceOf_36 rfl) (rIn 3 d_M_balanceOf_37 rfl) d_M_balanceOf_38) d_M_balanceOf_39) (rI d_M_balanceOf_40 rfl) d_M_balanceOf_41) d_M_balanceOf_42) d_M_balanceOf_43 (by decide)) (rT2 (rNot (rJ2 (tgt := 78) j_ne (rIa (rFr fl_M_24 nk_12_2 (rAn 0 d_M_balanceOf_46 rfl) d_M_balanceOf_47) (r2 o_add (rB d_M_balanceOf_50 rfl) (r2 o_mul (rI d_M_balanceOf_52 rfl) (rIn 3 d_M_balanceOf_53 rfl) d_M_balanceOf_54) d_M_balanceOf_55) d_M_balanceOf_56) (rIn 1 d_M_balanceOf_57 rfl) d_M_balanceOf_58 (by decide))) (rGoE (p2 := 79) (rNg (rIa (rFr fl_M_24 nk_12_2 (rAn 0 d_M_balanceOf_61 rfl) d_M_balanceOf_62) (r2 o_add (r2 o_add (rB d_M_balanceOf_65 rfl) (r2 o_mul (rI d_M_balanceOf_67 rfl) (rIn 3 d_M_balanceOf_68 rfl) d_M_balanceOf_69) d_M_balanceOf_70) (rI d_M_balanceOf_71 rfl) d_M_balanceOf_72) d_M_balanceOf_73) d_M_balanceOf_74) d_M_balanceOf_75 (by decide)) (rI d_M_balanceOf_78 rfl))) d_M_balanceOf_79)) d_M_balanceOf_80 rfl (by decide)) (sGo (pn := 4) (sInc d_M_balanceOf_81 (by decide)) d_M_balanceOf_84 (by decide)))) (sRi (xE (rIn 2 d_M_balanceOf_87 rfl)) d_M_balanceOf_88 rfl))))
noncomputable def f_M_balanceOf : List zV → zMem → Int
  | [.inr (.inr (.inl q0)), .inl p], μ => blL p (dbM μ)
  | _, _ => 0
def g_M_balanceOf : List zV → zMem → Prop
  | [.inr (.inr (.inl q0)), .inl p], μ => q0 = 355 ∧ (okT (μ 357 71) (fM μ))
  | _, _ => False
theorem p_M_balanceOf : zPu y_M_balanceOf 2 f_M_balanceOf g_M_balanceOf := by
  intro as μ h
  unfold g_M_balanceOf at h
  split at h
  · next q0 p =>
    obtain ⟨rfl, h⟩ := h
    refine zSp.ss [vr 355, vi p, vx 0, vx 0] rfl (w_M_balanceOf (Nat.le_refl _)) rfl rfl ?_
    have hn := h.1
    (try simp only [zit_e, Bool.and_eq_true, Bool.or_eq_true, Bool.not_eq_true', Bool.and_eq_false_iff, Bool.or_eq_false_iff, Bool.not_eq_false', zbe, zdt, zdf, zb2_p, zbp_0, zbp_1, zbp_inj, zbp_01, Bool.true_eq_false, Bool.false_eq_true, true_and, and_true, Decidable.not_not, Classical.not_not, implies_true, List.nil_append, List.cons_append, List.append_assoc, Option.some.injEq, Sum.inl.injEq, zSw_c, zSw_n]); (try simp only [zit_e, Bool.and_eq_true, Bool.or_eq_true, Bool.not_eq_true', Bool.and_eq_false_iff, Bool.or_eq_false_iff, Bool.not_eq_false', zbe, zdt, zdf, zb2_p, zbp_0, zbp_1, zbp_inj, zbp_01, Bool.true_eq_false, Bool.false_eq_true, true_and, and_true, Decidable.not_not, Classical.not_not, implies_true, List.nil_append, List.cons_append, List.append_assoc, Option.some.injEq, Sum.inl.injEq, zSw_c, zSw_n, f_M_balanceOf, zc_355]); (try simp only [zi_cs, zi_c0, zii_cs, zii_c0, zl_cs, zl_c0, zll_cs, zll_c0, zr_cs, zr_c0, zrr_cs, zrr_c0, zxs_cs, zxs_c0, zxx_cs, zxx_c0, zfree_c0, zfree_c1, zfree_cs, zfree_cz, zlong_i, zlong_r, zlong_x, zset_0, zset_s, true_and, and_true, Option.some.injEq, Sum.inl.injEq, Sum.inr.injEq, zb2_p, zbp_0, zbp_1, zbp_inj, zbp_01, Nat.zero_add, Nat.reduceAdd, implies_true, List.nil_append, List.cons_append, List.append_assoc, Int.not_lt, Int.not_le, Decidable.not_not, Int.zero_add, Int.reduceLE, Int.reduceLT, Int.reduceEq, Int.reduceNe, Int.reduceAdd, Int.reduceSub, Int.reduceMul, Int.reduceNeg, Int.reduceToNat, Nat.reduceMul, Nat.reduceLT, Nat.reduceEqDiff, and_self, ite_true, ite_false, zx1, zx2, zRecv, List.length_cons, List.length_nil, ne_eq, not_true_eq_false, not_false_eq_true, true_or, or_true, or_false, false_or, and_false, false_and, zf01, zf10, reduceCtorEq, zSw_c, zSw_n, zm_r, zit_T, zit_F, false_implies, true_implies, f_M_balanceOf, zc_355])
    refine zLoop.up (μ 357 71).toNat (fun j ρ μ1 => ρ = [vr 355, vi p, vi (blL p (tL j (fM μ))), vi j] ∧ μ = μ1) ⟨rfl, rfl⟩ ?_
    rintro j ρ μ1 hj ⟨rfl, rfl⟩
    (try simp only [zit_e, Bool.and_eq_true, Bool.or_eq_true, Bool.not_eq_true', Bool.and_eq_false_iff, Bool.or_eq_false_iff, Bool.not_eq_false', zbe, zdt, zdf, zb2_p, zbp_0, zbp_1, zbp_inj, zbp_01, Bool.true_eq_false, Bool.false_eq_true, true_and, and_true, Decidable.not_not, Classical.not_not, implies_true, List.nil_append, List.cons_append, List.append_assoc, Option.some.injEq, Sum.inl.injEq, zSw_c, zSw_n]); (try simp only [zit_e, Bool.and_eq_true, Bool.or_eq_true, Bool.not_eq_true', Bool.and_eq_false_iff, Bool.or_eq_false_iff, Bool.not_eq_false', zbe, zdt, zdf, zb2_p, zbp_0, zbp_1, zbp_inj, zbp_01, Bool.true_eq_false, Bool.false_eq_true, true_and, and_true, Decidable.not_not, Classical.not_not, implies_true, List.nil_append, List.cons_append, List.append_assoc, Option.some.injEq, Sum.inl.injEq, zSw_c, zSw_n, zc_355, f_M_debts, g_M_debts]); (try simp only [zi_cs, zi_c0, zii_cs, zii_c0, zl_cs, zl_c0, zll_cs, zll_c0, zr_cs, zr_c0, zrr_cs, zrr_c0, zxs_cs, zxs_c0, zxx_cs, zxx_c0, zfree_c0, zfree_c1, zfree_cs, zfree_cz, zlong_i, zlong_r, zlong_x, zset_0, zset_s, true_and, and_true, Option.some.injEq, Sum.inl.injEq, Sum.inr.injEq, zb2_p, zbp_0, zbp_1, zbp_inj, zbp_01, Nat.zero_add, Nat.reduceAdd, implies_true, List.nil_append, List.cons_append, List.append_assoc, Int.not_lt, Int.not_le, Decidable.not_not, Int.zero_add, Int.reduceLE, Int.reduceLT, Int.reduceEq, Int.reduceNe, Int.reduceAdd, Int.reduceSub, Int.reduceMul, Int.reduceNeg, Int.reduceToNat, Nat.reduceMul, Nat.reduceLT, Nat.reduceEqDiff, and_self, ite_true, ite_false, zx1, zx2, zRecv, List.length_cons, List.length_nil, ne_eq, not_true_eq_false, not_false_eq_true, true_or, or_true, or_false, false_or, and_false, false_and, zf01, zf10, reduceCtorEq, zSw_c, zSw_n, zm_r, zit_T, zit_F, false_implies, true_implies, zc_355, f_M_debts, g_M_debts])
    refine zif (fun c => ?_) (fun c => ?_)
    · have hb := blL_in (p := p) h (j + 1) (by omega)
      have hs := blL_s (p := p) (n := j) (f := fM μ)
      have hs : blL p (tL (j + 1) (fM μ)) = blL p (tL j (fM μ)) + if μ 357 (7 + 4 * (j : Int) + 1) = p then μ 357 (7 + 4 * (j : Int) + 2) else if μ 357 (7 + 4 * (j : Int)) = p then -μ 357 (7 + 4 * (j : Int) + 2) else 0 := hs
      have h9 : 1 ≤ μ 357 (7 + 4 * (j : Int) + 2) ∧ μ 357 (7 + 4 * (j : Int) + 2) ≤ 9999 := (h.2 j (by omega) (by omega)).2.2.2.1
      simp only [zit_e] at hs
      rw [← hs]
      exact ⟨by ((try simp only [zI_e]); (first | done | omega | skip)), zI_s (by omega) (by omega), znx (by omega) rfl⟩
    · have e : j = (μ 357 71).toNat := by omega
      rw [e, dbM]
  · exact h.elim

