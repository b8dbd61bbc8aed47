/-! a ring is cleared, the reference -/
def y_M_clears : zMt := (⟨"DebtDoorsModel", "clears", "(I)V"⟩, prog_14_method_124_code, 3, none)
theorem d_M_clears_0 : decode prog_14_method_124_code 0 = .ok (.iconst 0, 1) := by decide +kernel
theorem d_M_clears_1 : decode prog_14_method_124_code 1 = .ok (.istore_n 2, 1) := by decide +kernel
theorem d_M_clears_2 : decode prog_14_method_124_code 2 = .ok (.iload_n 2, 1) := by decide +kernel
theorem d_M_clears_3 : decode prog_14_method_124_code 3 = .ok (.aload_n 0, 1) := by decide +kernel
theorem d_M_clears_4 : decode prog_14_method_124_code 4 = .ok (.getfield 446, 3) := by decide +kernel
theorem d_M_clears_7 : decode prog_14_method_124_code 7 = .ok (.if_icmp .ge 33, 3) := by decide +kernel
theorem d_M_clears_10 : decode prog_14_method_124_code 10 = .ok (.aload_n 0, 1) := by decide +kernel
theorem d_M_clears_11 : decode prog_14_method_124_code 11 = .ok (.aload_n 0, 1) := by decide +kernel
theorem d_M_clears_12 : decode prog_14_method_124_code 12 = .ok (.getfield 98, 3) := by decide +kernel
theorem d_M_clears_15 : decode prog_14_method_124_code 15 = .ok (.iload_n 2, 1) := by decide +kernel
theorem d_M_clears_16 : decode prog_14_method_124_code 16 = .ok (.iaload, 1) := by decide +kernel
theorem d_M_clears_17 : decode prog_14_method_124_code 17 = .ok (.aload_n 0, 1) := by decide +kernel
theorem d_M_clears_18 : decode prog_14_method_124_code 18 = .ok (.getfield 98, 3) := by decide +kernel
theorem d_M_clears_21 : decode prog_14_method_124_code 21 = .ok (.iload_n 2, 1) := by decide +kernel
theorem d_M_clears_22 : decode prog_14_method_124_code 22 = .ok (.iconst 1, 1) := by decide +kernel
theorem d_M_clears_23 : decode prog_14_method_124_code 23 = .ok (.iadd, 1) := by decide +kernel
theorem d_M_clears_24 : decode prog_14_method_124_code 24 = .ok (.aload_n 0, 1) := by decide +kernel
theorem d_M_clears_25 : decode prog_14_method_124_code 25 = .ok (.getfield 446, 3) := by decide +kernel
theorem d_M_clears_28 : decode prog_14_method_124_code 28 = .ok (.irem, 1) := by decide +kernel
theorem d_M_clears_29 : decode prog_14_method_124_code 29 = .ok (.iaload, 1) := by decide +kernel
theorem d_M_clears_30 : decode prog_14_method_124_code 30 = .ok (.iload_n 1, 1) := by decide +kernel
theorem d_M_clears_31 : decode prog_14_method_124_code 31 = .ok (.invokevirtual 366, 3) := by decide +kernel
theorem d_M_clears_34 : decode prog_14_method_124_code 34 = .ok (.iinc 2 1, 3) := by decide +kernel
theorem d_M_clears_37 : decode prog_14_method_124_code 37 = .ok (.goto (-35), 3) := by decide +kernel
theorem d_M_clears_40 : decode prog_14_method_124_code 40 = .ok (.return_, 1) := by decide +kernel
def w_M_clears {d : Nat} (hd : 1 ≤ d) := (show SS ("DebtDoorsModel", prog_14_method_124_code, 3) (none) d 0 0 0 0 _ from (sS (p1 := 40) (sS (p1 := 2) (sIn 2 (xE (rI d_M_clears_0 rfl)) d_M_clears_1 rfl (by decide)) (sLp (ps := 34) (tt := 10) (pn := 40) (p1 := 0) (p2 := 0) (xC (rNot (rJ2 (tgt := 40) j_ge (rIn 2 d_M_clears_2 rfl) (rF 43 fl_M_446 nk_12_43 (rAn 0 d_M_clears_3 rfl) d_M_clears_4 rfl) d_M_clears_7 (by decide)))) (sV (xVv lv_M_366 (xA (rAi (rAi (rAi (rAr rA0 (rAn 0 d_M_clears_10 rfl)) (rIa (rFr fl_M_98 nk_12_42 (rAn 0 d_M_clears_11 rfl) d_M_clears_12) (rIn 2 d_M_clears_15 rfl) d_M_clears_16)) (rIa (rFr fl_M_98 nk_12_42 (rAn 0 d_M_clears_17 rfl) d_M_clears_18) (r2 o_rem (r2 o_add (rIn 2 d_M_clears_21 rfl) (rI d_M_clears_22 rfl) d_M_clears_23) (rF 43 fl_M_446 nk_12_43 (rAn 0 d_M_clears_24 rfl) d_M_clears_25 rfl) d_M_clears_28) d_M_clears_29)) (rIn 1 d_M_clears_30 rfl))) (by decide) d_M_clears_31)) (sGo (pn := 2) (sInc d_M_clears_34 (by decide)) d_M_clears_37 (by decide)))) (sRv d_M_clears_40 rfl)))
def y_M_ringLeast : zMt := (⟨"DebtDoorsModel", "ringLeast", "()I"⟩, prog_14_method_123_code, 3, some .int)
theorem d_M_ringLeast_0 : decode prog_14_method_123_code 0 = .ok (.ldc_w 445, 3) := by decide +kernel
theorem d_M_ringLeast_3 : decode prog_14_method_123_code 3 = .ok (.istore_n 1, 1) := by decide +kernel
theorem d_M_ringLeast_4 : decode prog_14_method_123_code 4 = .ok (.iconst 0, 1) := by decide +kernel
theorem d_M_ringLeast_5 : decode prog_14_method_123_code 5 = .ok (.istore_n 2, 1) := by decide +kernel
theorem d_M_ringLeast_6 : decode prog_14_method_123_code 6 = .ok (.iload_n 2, 1) := by decide +kernel
theorem d_M_ringLeast_7 : decode prog_14_method_123_code 7 = .ok (.aload_n 0, 1) := by decide +kernel
theorem d_M_ringLeast_8 : decode prog_14_method_123_code 8 = .ok (.getfield 446, 3) := by decide +kernel
theorem d_M_ringLeast_11 : decode prog_14_method_123_code 11 = .ok (.if_icmp .ge 37, 3) := by decide +kernel
theorem d_M_ringLeast_14 : decode prog_14_method_123_code 14 = .ok (.iload_n 1, 1) := by decide +kernel
theorem d_M_ringLeast_15 : decode prog_14_method_123_code 15 = .ok (.aload_n 0, 1) := by decide +kernel
theorem d_M_ringLeast_16 : decode prog_14_method_123_code 16 = .ok (.aload_n 0, 1) := by decide +kernel
theorem d_M_ringLeast_17 : decode prog_14_method_123_code 17 = .ok (.getfield 98, 3) := by decide +kernel
theorem d_M_ringLeast_20 : decode prog_14_method_123_code 20 = .ok (.iload_n 2, 1) := by decide +kernel
theorem d_M_ringLeast_21 : decode prog_14_method_123_code 21 = .ok (.iaload, 1) := by decide +kernel
theorem d_M_ringLeast_22 : decode prog_14_method_123_code 22 = .ok (.aload_n 0, 1) := by decide +kernel
theorem d_M_ringLeast_23 : decode prog_14_method_123_code 23 = .ok (.getfield 98, 3) := by decide +kernel
theorem d_M_ringLeast_26 : decode prog_14_method_123_code 26 = .ok (.iload_n 2, 1) := by decide +kernel
theorem d_M_ringLeast_27 : decode prog_14_method_123_code 27 = .ok (.iconst 1, 1) := by decide +kernel
theorem d_M_ringLeast_28 : decode prog_14_method_123_code 28 = .ok (.iadd, 1) := by decide +kernel
theorem d_M_ringLeast_29 : decode prog_14_method_123_code 29 = .ok (.aload_n 0, 1) := by decide +kernel
theorem d_M_ringLeast_30 : decode prog_14_method_123_code 30 = .ok (.getfield 446, 3) := by decide +kernel
theorem d_M_ringLeast_33 : decode prog_14_method_123_code 33 = .ok (.irem, 1) := by decide +kernel
theorem d_M_ringLeast_34 : decode prog_14_method_123_code 34 = .ok (.iaload, 1) := by decide +kernel
theorem d_M_ringLeast_35 : decode prog_14_method_123_code 35 = .ok (.invokevirtual 178, 3) := by decide +kernel
theorem d_M_ringLeast_38 : decode prog_14_method_123_code 38 = .ok (.invokestatic 335, 3) := by decide +kernel
theorem d_M_ringLeast_41 : decode prog_14_method_123_code 41 = .ok (.istore_n 1, 1) := by decide +kernel
theorem d_M_ringLeast_42 : decode prog_14_method_123_code 42 = .ok (.iinc 2 1, 3) := by decide +kernel
theorem d_M_ringLeast_45 : decode prog_14_method_123_code 45 = .ok (.goto (-39), 3) := by decide +kernel
theorem d_M_ringLeast_48 : decode prog_14_method_123_code 48 = .ok (.iload_n 1, 1) := by decide +kernel
theorem d_M_ringLeast_49 : decode prog_14_method_123_code 49 = .ok (.ireturn, 1) := by decide +kernel
def w_M_ringLeast {d : Nat} (hd : 3 ≤ d) := (show SS ("DebtDoorsModel", prog_14_method_123_code, 3) (some .int) d 0 0 0 0 _ from (sS (p1 := 4) (sIn 1 (xE (rLw kc_M_445 d_M_ringLeast_0 rfl)) d_M_ringLeast_3 rfl (by decide)) (sS (p1 := 48) (sS (p1 := 6) (sIn 2 (xE (rI d_M_ringLeast_4 rfl)) d_M_ringLeast_5 rfl (by decide)) (sLp (ps := 42) (tt := 14) (pn := 48) (p1 := 0) (p2 := 0) (xC (rNot (rJ2 (tgt := 48) j_ge (rIn 2 d_M_ringLeast_6 rfl) (rF 43 fl_M_446 nk_12_43 (rAn 0 d_M_ringLeast_7 rfl) d_M_ringLeast_8 rfl) d_M_ringLeast_11 (by decide)))) (sIn 1 (xE (rS p_M_lesser (Nat.le_trans (Nat.le_of_ble_eq_true rfl) hd) ls_M_335 (rAi (rAi rA0 (rIn 1 d_M_ringLeast_14 rfl)) (rV p_M_owed (Nat.le_trans (Nat.le_of_ble_eq_true rfl) hd) lv_M_178 (rAi (rAi (rAr rA0 (rAn 0 d_M_ringLeast_15 rfl)) (rIa (rFr fl_M_98 nk_12_42 (rAn 0 d_M_ringLeast_16 rfl) d_M_ringLeast_17) (rIn 2 d_M_ringLeast_20 rfl) d_M_ringLeast_21)) (rIa (rFr fl_M_98 nk_12_42 (rAn 0 d_M_ringLeast_22 rfl) d_M_ringLeast_23) (r2 o_rem (r2 o_add (rIn 2 d_M_ringLeast_26 rfl) (rI d_M_ringLeast_27 rfl) d_M_ringLeast_28) (rF 43 fl_M_446 nk_12_43 (rAn 0 d_M_ringLeast_29 rfl) d_M_ringLeast_30 rfl) d_M_ringLeast_33) d_M_ringLeast_34)) (by decide) d_M_ringLeast_35)) (by decide) d_M_ringLeast_38)) d_M_ringLeast_41 rfl (by decide)) (sGo (pn := 6) (sInc d_M_ringLeast_42 (by decide)) d_M_ringLeast_45 (by decide)))) (sRi (xE (rIn 1 d_M_ringLeast_48 rfl)) d_M_ringLeast_49 rfl))))
noncomputable def f_M_ringLeast : List zV → zMem → Int
  | [.inr (.inr (.inl q0))], μ => rlF (fun i => owL (μ 380 (i : Int)) (μ 380 (((i + 1) % (μ 355 43).toNat : Nat) : Int)) (dbM μ)) 1000000000 (μ 355 43).toNat
  | _, _ => 0
def g_M_ringLeast : List zV → zMem → Prop
  | [.inr (.inr (.inl q0))], μ => q0 = 355 ∧ ((1 ≤ μ 355 43 ∧ μ 355 43 ≤ 7) ∧ okT (μ 357 71) (fM μ))
  | _, _ => False
theorem p_M_ringLeast : zPu y_M_ringLeast 3 f_M_ringLeast g_M_ringLeast := by
  intro as μ h
  unfold g_M_ringLeast at h
  split at h
  · next q0 =>
    obtain ⟨rfl, h⟩ := h
    refine zSp.ss [vr 355, vx 0, vx 0] rfl (w_M_ringLeast (Nat.le_refl _)) rfl rfl ?_
    (try simp only [zit_e, Bool.and_eq_true, Bool.or_eq_true, Bool.not_eq_true', Bool.and_eq_false_iff, Bool.or_eq_false_iff, Bool.not_eq_false', zbe, zdt, zdf, zb2_p, zbp_0, zbp_1, zbp_inj, zbp_01, Bool.true_eq_false, Bool.false_eq_true, true_and, and_true, Decidable.not_not, Classical.not_not, implies_true, List.nil_append, List.cons_append, List.append_assoc, Option.some.injEq, Sum.inl.injEq, zSw_c, zSw_n]); (try simp only [zit_e, Bool.and_eq_true, Bool.or_eq_true, Bool.not_eq_true', Bool.and_eq_false_iff, Bool.or_eq_false_iff, Bool.not_eq_false', zbe, zdt, zdf, zb2_p, zbp_0, zbp_1, zbp_inj, zbp_01, Bool.true_eq_false, Bool.false_eq_true, true_and, and_true, Decidable.not_not, Classical.not_not, implies_true, List.nil_append, List.cons_append, List.append_assoc, Option.some.injEq, Sum.inl.injEq, zSw_c, zSw_n, f_M_ringLeast, zc_355]); (try simp only [zi_cs, zi_c0, zii_cs, zii_c0, zl_cs, zl_c0, zll_cs, zll_c0, zr_cs, zr_c0, zrr_cs, zrr_c0, zxs_cs, zxs_c0, zxx_cs, zxx_c0, zfree_c0, zfree_c1, zfree_cs, zfree_cz, zlong_i, zlong_r, zlong_x, zset_0, zset_s, true_and, and_true, Option.some.injEq, Sum.inl.injEq, Sum.inr.injEq, zb2_p, zbp_0, zbp_1, zbp_inj, zbp_01, Nat.zero_add, Nat.reduceAdd, implies_true, List.nil_append, List.cons_append, List.append_assoc, Int.not_lt, Int.not_le, Decidable.not_not, Int.zero_add, Int.reduceLE, Int.reduceLT, Int.reduceEq, Int.reduceNe, Int.reduceAdd, Int.reduceSub, Int.reduceMul, Int.reduceNeg, Int.reduceToNat, Nat.reduceMul, Nat.reduceLT, Nat.reduceEqDiff, and_self, ite_true, ite_false, zx1, zx2, zRecv, List.length_cons, List.length_nil, ne_eq, not_true_eq_false, not_false_eq_true, true_or, or_true, or_false, false_or, and_false, false_and, zf01, zf10, reduceCtorEq, zSw_c, zSw_n, zm_r, zit_T, zit_F, false_implies, true_implies, f_M_ringLeast, zc_355])
    obtain ⟨n, hn⟩ : ∃ n : Nat, μ 355 43 = (n : Int) := ⟨(μ 355 43).toNat, by omega⟩
    rw [hn, Int.toNat_natCast]
    refine zLoop.up n (fun j ρ μ1 => ρ = [vr 355, vi (rlF (fun i => owL (μ 380 (i : Int)) (μ 380 (((i + 1) % n : Nat) : Int)) (dbM μ)) 1000000000 j), vi j] ∧ μ1 = μ) ⟨rfl, rfl⟩ ?_
    rintro j ρ μ1 hj ⟨rfl, rfl⟩
    (try simp only [zit_e, Bool.and_eq_true, Bool.or_eq_true, Bool.not_eq_true', Bool.and_eq_false_iff, Bool.or_eq_false_iff, Bool.not_eq_false', zbe, zdt, zdf, zb2_p, zbp_0, zbp_1, zbp_inj, zbp_01, Bool.true_eq_false, Bool.false_eq_true, true_and, and_true, Decidable.not_not, Classical.not_not, implies_true, List.nil_append, List.cons_append, List.append_assoc, Option.some.injEq, Sum.inl.injEq, zSw_c, zSw_n]); (try simp only [zit_e, Bool.and_eq_true, Bool.or_eq_true, Bool.not_eq_true', Bool.and_eq_false_iff, Bool.or_eq_false_iff, Bool.not_eq_false', zbe, zdt, zdf, zb2_p, zbp_0, zbp_1, zbp_inj, zbp_01, Bool.true_eq_false, Bool.false_eq_true, true_and, and_true, Decidable.not_not, Classical.not_not, implies_true, List.nil_append, List.cons_append, List.append_assoc, Option.some.injEq, Sum.inl.injEq, zSw_c, zSw_n, zc_355, f_M_owed, g_M_owed, f_M_lesser, g_M_lesser]); (try simp only [zi_cs, zi_c0, zii_cs, zii_c0, zl_cs, zl_c0, zll_cs, zll_c0, zr_cs, zr_c0, zrr_cs, zrr_c0, zxs_cs, zxs_c0, zxx_cs, zxx_c0, zfree_c0, zfree_c1, zfree_cs, zfree_cz, zlong_i, zlong_r, zlong_x, zset_0, zset_s, true_and, and_true, Option.some.injEq, Sum.inl.injEq, Sum.inr.injEq, zb2_p, zbp_0, zbp_1, zbp_inj, zbp_01, Nat.zero_add, Nat.reduceAdd, implies_true, List.nil_append, List.cons_append, List.append_assoc, Int.not_lt, Int.not_le, Decidable.not_not, Int.zero_add, Int.reduceLE, Int.reduceLT, Int.reduceEq, Int.reduceNe, Int.reduceAdd, Int.reduceSub, Int.reduceMul, Int.reduceNeg, Int.reduceToNat, Nat.reduceMul, Nat.reduceLT, Nat.reduceEqDiff, and_self, ite_true, ite_false, zx1, zx2, zRecv, List.length_cons, List.length_nil, ne_eq, not_true_eq_false, not_false_eq_true, true_or, or_true, or_false, false_or, and_false, false_and, zf01, zf10, reduceCtorEq, zSw_c, zSw_n, zm_r, zit_T, zit_F, false_implies, true_implies, zc_355, f_M_owed, g_M_owed, f_M_lesser, g_M_lesser])
    rw [hn]
    have hnx := nx_e (j := j) (n := n) (by omega)
    refine zif (fun c => ?_) (fun c => ?_)
    · rw [hnx.1]
      exact ⟨⟨⟨by omega, ⟨by ((try simp only [zI_e]); (first | done | omega | skip)), by omega⟩, by omega, by omega⟩, h.2⟩, by ((try simp only [zI_e]); (first | done | omega | skip)), znx (by omega) rfl⟩
    · have : j = n := by omega
      rw [this]
  · exact h.elim
theorem q_M_clears {d : Nat} (hd : 8 ≤ d) {μ : zMem} {Z : Zt} {F : Option (List Cls)} {A : Lg} {w : Int → Int} {l : List Nat} {m : Int} (h : MTx μ Z F A w) (hm : 0 ≤ m ∧ m ≤ 1000000000) (hR : RgM (some l) μ) : zSp d 0 0 y_M_clears zT0 [vr 355, vi m] μ zT0 (fun q μ' => q = none ∧ MTx μ' Z F (clA l m A l.length) w ∧ (∀ i : Int, 73 ≤ i → μ' 357 i = μ 357 i) ∧ zfc [357] μ μ') := by
  obtain ⟨⟨r1, r3, r4⟩, -, r2⟩ := hR
  have hl : 1 ≤ l.length := List.length_pos_iff.mpr r3
  refine zSp.ss [vr 355, vi m, vx 0] rfl (w_M_clears (Nat.le_trans (by decide) hd)) rfl rfl ?_
  (try simp only [zit_e, Bool.and_eq_true, Bool.or_eq_true, Bool.not_eq_true', Bool.and_eq_false_iff, Bool.or_eq_false_iff, Bool.not_eq_false', zbe, zdt, zdf, zb2_p, zbp_0, zbp_1, zbp_inj, zbp_01, Bool.true_eq_false, Bool.false_eq_true, true_and, and_true, Decidable.not_not, Classical.not_not, implies_true, List.nil_append, List.cons_append, List.append_assoc, Option.some.injEq, Sum.inl.injEq, zSw_c, zSw_n]); (try simp only [zit_e, Bool.and_eq_true, Bool.or_eq_true, Bool.not_eq_true', Bool.and_eq_false_iff, Bool.or_eq_false_iff, Bool.not_eq_false', zbe, zdt, zdf, zb2_p, zbp_0, zbp_1, zbp_inj, zbp_01, Bool.true_eq_false, Bool.false_eq_true, true_and, and_true, Decidable.not_not, Classical.not_not, implies_true, List.nil_append, List.cons_append, List.append_assoc, Option.some.injEq, Sum.inl.injEq, zSw_c, zSw_n, zc_355]); (try simp only [zi_cs, zi_c0, zii_cs, zii_c0, zl_cs, zl_c0, zll_cs, zll_c0, zr_cs, zr_c0, zrr_cs, zrr_c0, zxs_cs, zxs_c0, zxx_cs, zxx_c0, zfree_c0, zfree_c1, zfree_cs, zfree_cz, zlong_i, zlong_r, zlong_x, zset_0, zset_s, true_and, and_true, Option.some.injEq, Sum.inl.injEq, Sum.inr.injEq, zb2_p, zbp_0, zbp_1, zbp_inj, zbp_01, Nat.zero_add, Nat.reduceAdd, implies_true, List.nil_append, List.cons_append, List.append_assoc, Int.not_lt, Int.not_le, Decidable.not_not, Int.zero_add, Int.reduceLE, Int.reduceLT, Int.reduceEq, Int.reduceNe, Int.reduceAdd, Int.reduceSub, Int.reduceMul, Int.reduceNeg, Int.reduceToNat, Nat.reduceMul, Nat.reduceLT, Nat.reduceEqDiff, and_self, ite_true, ite_false, zx1, zx2, zRecv, List.length_cons, List.length_nil, ne_eq, not_true_eq_false, not_false_eq_true, true_or, or_true, or_false, false_or, and_false, false_and, zf01, zf10, reduceCtorEq, zSw_c, zSw_n, zm_r, zit_T, zit_F, false_implies, true_implies, zc_355])
  refine zLoop.up l.length (fun j ρ μ1 => ρ = [vr 355, vi m, vi j] ∧ MTx μ1 Z F (clA l m A j) w ∧ (∀ i : Int, 73 ≤ i → μ1 357 i = μ 357 i) ∧ zfc [357] μ μ1) ⟨rfl, h, fun _ _ => rfl, zfc.rf⟩ ?_
  rintro j ρ μ1 hj ⟨rfl, hM, hk, hf⟩
  (try simp only [zit_e, Bool.and_eq_true, Bool.or_eq_true, Bool.not_eq_true', Bool.and_eq_false_iff, Bool.or_eq_false_iff, Bool.not_eq_false', zbe, zdt, zdf, zb2_p, zbp_0, zbp_1, zbp_inj, zbp_01, Bool.true_eq_false, Bool.false_eq_true, true_and, and_true, Decidable.not_not, Classical.not_not, implies_true, List.nil_append, List.cons_append, List.append_assoc, Option.some.injEq, Sum.inl.injEq, zSw_c, zSw_n]); (try simp only [zit_e, Bool.and_eq_true, Bool.or_eq_true, Bool.not_eq_true', Bool.and_eq_false_iff, Bool.or_eq_false_iff, Bool.not_eq_false', zbe, zdt, zdf, zb2_p, zbp_0, zbp_1, zbp_inj, zbp_01, Bool.true_eq_false, Bool.false_eq_true, true_and, and_true, Decidable.not_not, Classical.not_not, implies_true, List.nil_append, List.cons_append, List.append_assoc, Option.some.injEq, Sum.inl.injEq, zSw_c, zSw_n, zc_355]); (try simp only [zi_cs, zi_c0, zii_cs, zii_c0, zl_cs, zl_c0, zll_cs, zll_c0, zr_cs, zr_c0, zrr_cs, zrr_c0, zxs_cs, zxs_c0, zxx_cs, zxx_c0, zfree_c0, zfree_c1, zfree_cs, zfree_cz, zlong_i, zlong_r, zlong_x, zset_0, zset_s, true_and, and_true, Option.some.injEq, Sum.inl.injEq, Sum.inr.injEq, zb2_p, zbp_0, zbp_1, zbp_inj, zbp_01, Nat.zero_add, Nat.reduceAdd, implies_true, List.nil_append, List.cons_append, List.append_assoc, Int.not_lt, Int.not_le, Decidable.not_not, Int.zero_add, Int.reduceLE, Int.reduceLT, Int.reduceEq, Int.reduceNe, Int.reduceAdd, Int.reduceSub, Int.reduceMul, Int.reduceNeg, Int.reduceToNat, Nat.reduceMul, Nat.reduceLT, Nat.reduceEqDiff, and_self, ite_true, ite_false, zx1, zx2, zRecv, List.length_cons, List.length_nil, ne_eq, not_true_eq_false, not_false_eq_true, true_or, or_true, or_false, false_or, and_false, false_and, zf01, zf10, reduceCtorEq, zSw_c, zSw_n, zm_r, zit_T, zit_F, false_implies, true_implies, zc_355])
  rw [hf 355 (by decide), r1]
  have hnx := nx_e (j := j) (n := l.length) hl
  have hA := clA_ok (l := l) (m := m) h.2.1 hm.1
  refine zif (fun c => ?_) (fun c => ?_)
  · rw [hnx.1, hf 380 (by decide), r2 j (by omega), r2 _ hnx.2]
    refine ⟨⟨by omega, ⟨by ((try simp only [zI_e]); (first | done | omega | skip)), by omega⟩, by omega, by omega⟩, ?_⟩
    refine zCw.use (q_M_lowers (d := 3) (by decide) hM.d.2.2.2.1 hm) (by omega) (fun q μ2 e => ?_)
    obtain ⟨rfl, e1, e2, e3, e4⟩ := e
    refine ⟨rfl, by ((try simp only [zI_e]); (first | done | omega | skip)), znx (by omega) ⟨rfl, ?_, fun i hi => by rw [e3 i (by omega), hk i hi], (hf.tr e4).mo (by simp)⟩⟩
    refine hM.up (hA (j + 1)).1 (lgM_is ?_ ?_ ?_) e2.1 (fun i hi => e3 i (by omega))
    · exact Eq.trans (tL_congr (fun i a b => e3 i (by omega))) hM.d.2.2.1
    · rw [e1, hM.d.1]
      rfl
    · rw [e3 72 (by omega), hM.d.2.1]
      rfl
  · have : j = l.length := by omega
    subst this
    exact ⟨hM, hk, hf⟩

