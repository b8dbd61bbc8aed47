/-! the machine's operations -/
theorem fl_Ma_18 : zFl "DebtDoors$Machine" 18 3 2 := ⟨_, rfl, by decide, (zTb_in 377 (by decide +kernel) (by decide +kernel)), rfl⟩
theorem fp_3_2 : zFp 3 2 1 := ⟨_, rfl, rfl, rfl, by decide⟩
theorem nk_3_2 : zNk 3 2 = some 1 := rfl
def y_Ma_breakOff : zMt := (⟨"DebtDoors$Machine", "breakOff", "()I"⟩, prog_5_method_3_code, 1, some .int)
theorem d_Ma_breakOff_0 : decode prog_5_method_3_code 0 = .ok (.aload_n 0, 1) := by decide +kernel
theorem d_Ma_breakOff_1 : decode prog_5_method_3_code 1 = .ok (.iconst 1, 1) := by decide +kernel
theorem d_Ma_breakOff_2 : decode prog_5_method_3_code 2 = .ok (.putfield 18, 3) := by decide +kernel
theorem d_Ma_breakOff_5 : decode prog_5_method_3_code 5 = .ok (.iconst 0, 1) := by decide +kernel
theorem d_Ma_breakOff_6 : decode prog_5_method_3_code 6 = .ok (.ireturn, 1) := by decide +kernel
def w_Ma_breakOff {d : Nat} (hd : 1 ≤ d) := (show SS ("DebtDoors$Machine", prog_5_method_3_code, 1) (some .int) d 0 0 0 0 _ from (sS (p1 := 5) (sP 2 fl_Ma_18 fp_3_2 nk_3_2 (rAn 0 d_Ma_breakOff_0 rfl) (xE (rI d_Ma_breakOff_1 rfl)) d_Ma_breakOff_2 rfl) (sRi (xE (rI d_Ma_breakOff_5 rfl)) d_Ma_breakOff_6 rfl)))
theorem kl_Ma_40 : Cond.constantLong "DebtDoors$Machine" 40 (Int64.ofInt 1000000001) ∈ zTb := (zTb_in 689 (by decide +kernel) (by decide +kernel))
def y_Ma_join : zMt := (⟨"DebtDoors$Machine", "join", "(IJJ)J"⟩, prog_5_method_4_code, 5, some .long)
theorem d_Ma_join_0 : decode prog_5_method_4_code 0 = .ok (.iload_n 0, 1) := by decide +kernel
theorem d_Ma_join_1 : decode prog_5_method_4_code 1 = .ok (.tableswitch 127 6 13 #[47, 51, 55, 59, 75, 91, 103, 115], 47) := by decide +kernel
theorem d_Ma_join_48 : decode prog_5_method_4_code 48 = .ok (.lload_n 1, 1) := by decide +kernel
theorem d_Ma_join_49 : decode prog_5_method_4_code 49 = .ok (.lload_n 3, 1) := by decide +kernel
theorem d_Ma_join_50 : decode prog_5_method_4_code 50 = .ok (.ladd, 1) := by decide +kernel
theorem d_Ma_join_51 : decode prog_5_method_4_code 51 = .ok (.lreturn, 1) := by decide +kernel
theorem d_Ma_join_52 : decode prog_5_method_4_code 52 = .ok (.lload_n 1, 1) := by decide +kernel
theorem d_Ma_join_53 : decode prog_5_method_4_code 53 = .ok (.lload_n 3, 1) := by decide +kernel
theorem d_Ma_join_54 : decode prog_5_method_4_code 54 = .ok (.lsub, 1) := by decide +kernel
theorem d_Ma_join_55 : decode prog_5_method_4_code 55 = .ok (.lreturn, 1) := by decide +kernel
theorem d_Ma_join_56 : decode prog_5_method_4_code 56 = .ok (.lload_n 1, 1) := by decide +kernel
theorem d_Ma_join_57 : decode prog_5_method_4_code 57 = .ok (.lload_n 3, 1) := by decide +kernel
theorem d_Ma_join_58 : decode prog_5_method_4_code 58 = .ok (.lmul, 1) := by decide +kernel
theorem d_Ma_join_59 : decode prog_5_method_4_code 59 = .ok (.lreturn, 1) := by decide +kernel
theorem d_Ma_join_60 : decode prog_5_method_4_code 60 = .ok (.lload_n 3, 1) := by decide +kernel
theorem d_Ma_join_61 : decode prog_5_method_4_code 61 = .ok (.lconst 0, 1) := by decide +kernel
theorem d_Ma_join_62 : decode prog_5_method_4_code 62 = .ok (.lcmp, 1) := by decide +kernel
theorem d_Ma_join_63 : decode prog_5_method_4_code 63 = .ok (.ifCond .ne 9, 3) := by decide +kernel
theorem d_Ma_join_66 : decode prog_5_method_4_code 66 = .ok (.ldc2_w 40, 3) := by decide +kernel
theorem d_Ma_join_69 : decode prog_5_method_4_code 69 = .ok (.goto 6, 3) := by decide +kernel
theorem d_Ma_join_72 : decode prog_5_method_4_code 72 = .ok (.lload_n 1, 1) := by decide +kernel
theorem d_Ma_join_73 : decode prog_5_method_4_code 73 = .ok (.lload_n 3, 1) := by decide +kernel
theorem d_Ma_join_74 : decode prog_5_method_4_code 74 = .ok (.ldiv, 1) := by decide +kernel
theorem d_Ma_join_75 : decode prog_5_method_4_code 75 = .ok (.lreturn, 1) := by decide +kernel
theorem d_Ma_join_76 : decode prog_5_method_4_code 76 = .ok (.lload_n 3, 1) := by decide +kernel
theorem d_Ma_join_77 : decode prog_5_method_4_code 77 = .ok (.lconst 0, 1) := by decide +kernel
theorem d_Ma_join_78 : decode prog_5_method_4_code 78 = .ok (.lcmp, 1) := by decide +kernel
theorem d_Ma_join_79 : decode prog_5_method_4_code 79 = .ok (.ifCond .ne 9, 3) := by decide +kernel
theorem d_Ma_join_82 : decode prog_5_method_4_code 82 = .ok (.ldc2_w 40, 3) := by decide +kernel
theorem d_Ma_join_85 : decode prog_5_method_4_code 85 = .ok (.goto 6, 3) := by decide +kernel
theorem d_Ma_join_88 : decode prog_5_method_4_code 88 = .ok (.lload_n 1, 1) := by decide +kernel
theorem d_Ma_join_89 : decode prog_5_method_4_code 89 = .ok (.lload_n 3, 1) := by decide +kernel
theorem d_Ma_join_90 : decode prog_5_method_4_code 90 = .ok (.lrem, 1) := by decide +kernel
theorem d_Ma_join_91 : decode prog_5_method_4_code 91 = .ok (.lreturn, 1) := by decide +kernel
theorem d_Ma_join_92 : decode prog_5_method_4_code 92 = .ok (.lload_n 1, 1) := by decide +kernel
theorem d_Ma_join_93 : decode prog_5_method_4_code 93 = .ok (.lload_n 3, 1) := by decide +kernel
theorem d_Ma_join_94 : decode prog_5_method_4_code 94 = .ok (.lcmp, 1) := by decide +kernel
theorem d_Ma_join_95 : decode prog_5_method_4_code 95 = .ok (.ifCond .ge 7, 3) := by decide +kernel
theorem d_Ma_join_98 : decode prog_5_method_4_code 98 = .ok (.lconst 1, 1) := by decide +kernel
theorem d_Ma_join_99 : decode prog_5_method_4_code 99 = .ok (.goto 4, 3) := by decide +kernel
theorem d_Ma_join_102 : decode prog_5_method_4_code 102 = .ok (.lconst 0, 1) := by decide +kernel
theorem d_Ma_join_103 : decode prog_5_method_4_code 103 = .ok (.lreturn, 1) := by decide +kernel
theorem d_Ma_join_104 : decode prog_5_method_4_code 104 = .ok (.lload_n 1, 1) := by decide +kernel
theorem d_Ma_join_105 : decode prog_5_method_4_code 105 = .ok (.lload_n 3, 1) := by decide +kernel
theorem d_Ma_join_106 : decode prog_5_method_4_code 106 = .ok (.lcmp, 1) := by decide +kernel
theorem d_Ma_join_107 : decode prog_5_method_4_code 107 = .ok (.ifCond .le 7, 3) := by decide +kernel
theorem d_Ma_join_110 : decode prog_5_method_4_code 110 = .ok (.lconst 1, 1) := by decide +kernel
theorem d_Ma_join_111 : decode prog_5_method_4_code 111 = .ok (.goto 4, 3) := by decide +kernel
theorem d_Ma_join_114 : decode prog_5_method_4_code 114 = .ok (.lconst 0, 1) := by decide +kernel
theorem d_Ma_join_115 : decode prog_5_method_4_code 115 = .ok (.lreturn, 1) := by decide +kernel
theorem d_Ma_join_116 : decode prog_5_method_4_code 116 = .ok (.lload_n 1, 1) := by decide +kernel
theorem d_Ma_join_117 : decode prog_5_method_4_code 117 = .ok (.lload_n 3, 1) := by decide +kernel
theorem d_Ma_join_118 : decode prog_5_method_4_code 118 = .ok (.lcmp, 1) := by decide +kernel
theorem d_Ma_join_119 : decode prog_5_method_4_code 119 = .ok (.ifCond .ne 7, 3) := by decide +kernel
theorem d_Ma_join_122 : decode prog_5_method_4_code 122 = .ok (.lconst 1, 1) := by decide +kernel
theorem d_Ma_join_123 : decode prog_5_method_4_code 123 = .ok (.goto 4, 3) := by decide +kernel
theorem d_Ma_join_126 : decode prog_5_method_4_code 126 = .ok (.lconst 0, 1) := by decide +kernel
theorem d_Ma_join_127 : decode prog_5_method_4_code 127 = .ok (.lreturn, 1) := by decide +kernel
theorem d_Ma_join_128 : decode prog_5_method_4_code 128 = .ok (.ldc2_w 40, 3) := by decide +kernel
theorem d_Ma_join_131 : decode prog_5_method_4_code 131 = .ok (.lreturn, 1) := by decide +kernel
def w_Ma_join {d : Nat} (hd : 1 ≤ d) := (show SS ("DebtDoors$Machine", prog_5_method_4_code, 5) (some .long) d 0 0 0 0 _ from (sSw (ts := [48, 52, 56, 60, 76, 92, 104, 116]) (dt := 128) (rIn 0 d_Ma_join_0 rfl) d_Ma_join_1 (by decide) (by decide) (by decide) (zSwk_c (sRl (xLp (rl2 o_ladd (rLn 1 d_Ma_join_48 rfl) (rLn 3 d_Ma_join_49 rfl) d_Ma_join_50)) d_Ma_join_51 rfl) (zSwk_c (sRl (xLp (rl2 o_lsub (rLn 1 d_Ma_join_52 rfl) (rLn 3 d_Ma_join_53 rfl) d_Ma_join_54)) d_Ma_join_55 rfl) (zSwk_c (sRl (xLp (rl2 o_lmul (rLn 1 d_Ma_join_56 rfl) (rLn 3 d_Ma_join_57 rfl) d_Ma_join_58)) d_Ma_join_59 rfl) (zSwk_c (sRl (xLp (rT2l (rNot (rJ1 (tgt := 72) k_ne (rCmp (rLn 3 d_Ma_join_60 rfl) (rLc0 d_Ma_join_61) d_Ma_join_62) d_Ma_join_63 (by decide))) (rGoL (p2 := 75) (rL2 kl_Ma_40 d_Ma_join_66 rfl) d_Ma_join_69 (by decide)) (rl2 o_ldiv (rLn 1 d_Ma_join_72 rfl) (rLn 3 d_Ma_join_73 rfl) d_Ma_join_74))) d_Ma_join_75 rfl) (zSwk_c (sRl (xLp (rT2l (rNot (rJ1 (tgt := 88) k_ne (rCmp (rLn 3 d_Ma_join_76 rfl) (rLc0 d_Ma_join_77) d_Ma_join_78) d_Ma_join_79 (by decide))) (rGoL (p2 := 91) (rL2 kl_Ma_40 d_Ma_join_82 rfl) d_Ma_join_85 (by decide)) (rl2 o_lrem (rLn 1 d_Ma_join_88 rfl) (rLn 3 d_Ma_join_89 rfl) d_Ma_join_90))) d_Ma_join_91 rfl) (zSwk_c (sRl (xLp (rT2l (rNot (rJ1 (tgt := 102) k_ge (rCmp (rLn 1 d_Ma_join_92 rfl) (rLn 3 d_Ma_join_93 rfl) d_Ma_join_94) d_Ma_join_95 (by decide))) (rGoL (p2 := 103) (rLc1 d_Ma_join_98) d_Ma_join_99 (by decide)) (rLc0 d_Ma_join_102))) d_Ma_join_103 rfl) (zSwk_c (sRl (xLp (rT2l (rNot (rJ1 (tgt := 114) k_le (rCmp (rLn 1 d_Ma_join_104 rfl) (rLn 3 d_Ma_join_105 rfl) d_Ma_join_106) d_Ma_join_107 (by decide))) (rGoL (p2 := 115) (rLc1 d_Ma_join_110) d_Ma_join_111 (by decide)) (rLc0 d_Ma_join_114))) d_Ma_join_115 rfl) (zSwk_c (sRl (xLp (rT2l (rNot (rJ1 (tgt := 126) k_ne (rCmp (rLn 1 d_Ma_join_116 rfl) (rLn 3 d_Ma_join_117 rfl) d_Ma_join_118) d_Ma_join_119 (by decide))) (rGoL (p2 := 127) (rLc1 d_Ma_join_122) d_Ma_join_123 (by decide)) (rLc0 d_Ma_join_126))) d_Ma_join_127 rfl) zSwk_n)))))))) (sRl (xLp (rL2 kl_Ma_40 d_Ma_join_128 rfl)) d_Ma_join_131 rfl)))
theorem q_Ma_breakOff {d : Nat} (hd : 1 ≤ d) {μ : zMem} : zSp d 0 0 y_Ma_breakOff zT0 [vr 325] μ zT0 (fun r μ' => r = some (vi 0) ∧ μ' = zm μ 325 2 1) := by
  refine zSp.ss [vr 325] rfl (w_Ma_breakOff hd) rfl rfl ?_
  (try simp only [zit_e, Bool.and_eq_true, Bool.or_eq_true, Bool.not_eq_true', Bool.and_eq_false_iff, Bool.or_eq_false_iff, Bool.not_eq_false', zbe, zdt, zdf, zb2_p, zbp_0, zbp_1, zbp_inj, zbp_01, Bool.true_eq_false, Bool.false_eq_true, true_and, and_true, Decidable.not_not, Classical.not_not, implies_true, List.nil_append, List.cons_append, List.append_assoc, Option.some.injEq, Sum.inl.injEq, zSw_c, zSw_n]); (try simp only [zit_e, Bool.and_eq_true, Bool.or_eq_true, Bool.not_eq_true', Bool.and_eq_false_iff, Bool.or_eq_false_iff, Bool.not_eq_false', zbe, zdt, zdf, zb2_p, zbp_0, zbp_1, zbp_inj, zbp_01, Bool.true_eq_false, Bool.false_eq_true, true_and, and_true, Decidable.not_not, Classical.not_not, implies_true, List.nil_append, List.cons_append, List.append_assoc, Option.some.injEq, Sum.inl.injEq, zSw_c, zSw_n, zc_325]); (try simp only [zi_cs, zi_c0, zii_cs, zii_c0, zl_cs, zl_c0, zll_cs, zll_c0, zr_cs, zr_c0, zrr_cs, zrr_c0, zxs_cs, zxs_c0, zxx_cs, zxx_c0, zfree_c0, zfree_c1, zfree_cs, zfree_cz, zlong_i, zlong_r, zlong_x, zset_0, zset_s, true_and, and_true, Option.some.injEq, Sum.inl.injEq, Sum.inr.injEq, zb2_p, zbp_0, zbp_1, zbp_inj, zbp_01, Nat.zero_add, Nat.reduceAdd, implies_true, List.nil_append, List.cons_append, List.append_assoc, Int.not_lt, Int.not_le, Decidable.not_not, Int.zero_add, Int.reduceLE, Int.reduceLT, Int.reduceEq, Int.reduceNe, Int.reduceAdd, Int.reduceSub, Int.reduceMul, Int.reduceNeg, Int.reduceToNat, Nat.reduceMul, Nat.reduceLT, Nat.reduceEqDiff, and_self, ite_true, ite_false, zx1, zx2, zRecv, List.length_cons, List.length_nil, ne_eq, not_true_eq_false, not_false_eq_true, true_or, or_true, or_false, false_or, and_false, false_and, zf01, zf10, reduceCtorEq, zSw_c, zSw_n, zm_r, zit_T, zit_F, false_implies, true_implies, zc_325])
def jn (o a b : Int) : Int := if o = 6 then a + b else if o = 7 then a - b else if o = 8 then a * b else if o = 9 then (if b = 0 then 1000000001 else a.tdiv b) else if o = 10 then (if b = 0 then 1000000001 else a.tmod b) else if o = 11 then (if a < b then 1 else 0) else if o = 12 then (if b < a then 1 else 0) else if o = 13 then (if a = b then 1 else 0) else 1000000001
def okV (a : Int) : Prop := -1000000000 ≤ a ∧ a ≤ 1000000001
theorem okV_mul {a b : Int} (ha : okV a) (hb : okV b) : -2000000000000000000 ≤ a * b ∧ a * b ≤ 2000000000000000000 := by
  have h : (a * b).natAbs ≤ 1000000001 * 1000000001 := by
    rw [Int.natAbs_mul]
    unfold okV at ha hb
    exact Nat.mul_le_mul (by omega) (by omega)
  omega
theorem okV_div {a b : Int} (ha : okV a) : (-1000000001 ≤ a.tdiv b ∧ a.tdiv b ≤ 1000000001) ∧ -1000000001 ≤ a.tmod b ∧ a.tmod b ≤ 1000000001 := by
  have h1 := Int.natAbs_tdiv_le_natAbs a b
  have h2 : (a.tmod b).natAbs ≤ a.natAbs := by rw [Int.natAbs_tmod]; exact Nat.mod_le _ _
  unfold okV at *
  omega
theorem opV_jn {o a b : Int} (ha : okV a) (hb : okV b) : opV o a b = if jn o a b < -1000000000 ∨ 1000000000 < jn o a b then none else some (jn o a b) := by
  unfold opV jn bnd
  by_cases e6 : o = 6
  · simp only [if_pos e6]
  rw [if_neg e6, if_neg e6]
  by_cases e7 : o = 7
  · simp only [if_pos e7]
  rw [if_neg e7, if_neg e7]
  by_cases e8 : o = 8
  · simp only [if_pos e8]
  rw [if_neg e8, if_neg e8]
  by_cases e9 : o = 9
  · simp only [if_pos e9]
    by_cases h : b = 0
    · simp [h]
    · simp only [if_neg h]
  rw [if_neg e9, if_neg e9]
  by_cases e10 : o = 10
  · simp only [if_pos e10]
    by_cases h : b = 0
    · simp [h]
    · simp only [if_neg h]
  rw [if_neg e10, if_neg e10]
  by_cases e11 : o = 11
  · simp only [if_pos e11]
    split <;> simp
  rw [if_neg e11, if_neg e11]
  by_cases e12 : o = 12
  · simp only [if_pos e12]
    split <;> simp
  rw [if_neg e12, if_neg e12]
  by_cases e13 : o = 13
  · simp only [if_pos e13]
    split <;> simp
  rw [if_neg e13, if_neg e13]
  simp
theorem jn_L {o a b : Int} (ha : okV a) (hb : okV b) : zL (jn o a b) := by
  have h1 := okV_div (b := b) ha
  have h2 := okV_mul ha hb
  unfold okV at *
  unfold jn zL
  repeat' split
  all_goals omega
theorem q_Ma_join {d : Nat} (hd : 1 ≤ d) {μ : zMem} {o a b : Int} (ha : okV a) (hb : okV b) : zSp d 0 0 y_Ma_join zT0 [vi o, vl a, vl b] μ zT0 (fun r μ' => r = some (vl (jn o a b)) ∧ μ' = μ) := by
  refine zSp.ss [vi o, vl a, vx 0, vl b, vx 0] rfl (w_Ma_join hd) rfl rfl ?_
  (try simp only [zit_e, Bool.and_eq_true, Bool.or_eq_true, Bool.not_eq_true', Bool.and_eq_false_iff, Bool.or_eq_false_iff, Bool.not_eq_false', zbe, zdt, zdf, zb2_p, zbp_0, zbp_1, zbp_inj, zbp_01, Bool.true_eq_false, Bool.false_eq_true, true_and, and_true, Decidable.not_not, Classical.not_not, implies_true, List.nil_append, List.cons_append, List.append_assoc, Option.some.injEq, Sum.inl.injEq, zSw_c, zSw_n]); (try simp only [zit_e, Bool.and_eq_true, Bool.or_eq_true, Bool.not_eq_true', Bool.and_eq_false_iff, Bool.or_eq_false_iff, Bool.not_eq_false', zbe, zdt, zdf, zb2_p, zbp_0, zbp_1, zbp_inj, zbp_01, Bool.true_eq_false, Bool.false_eq_true, true_and, and_true, Decidable.not_not, Classical.not_not, implies_true, List.nil_append, List.cons_append, List.append_assoc, Option.some.injEq, Sum.inl.injEq, zSw_c, zSw_n, y_Ma_join]); (try simp only [zi_cs, zi_c0, zii_cs, zii_c0, zl_cs, zl_c0, zll_cs, zll_c0, zr_cs, zr_c0, zrr_cs, zrr_c0, zxs_cs, zxs_c0, zxx_cs, zxx_c0, zfree_c0, zfree_c1, zfree_cs, zfree_cz, zlong_i, zlong_r, zlong_x, zset_0, zset_s, true_and, and_true, Option.some.injEq, Sum.inl.injEq, Sum.inr.injEq, zb2_p, zbp_0, zbp_1, zbp_inj, zbp_01, Nat.zero_add, Nat.reduceAdd, implies_true, List.nil_append, List.cons_append, List.append_assoc, Int.not_lt, Int.not_le, Decidable.not_not, Int.zero_add, Int.reduceLE, Int.reduceLT, Int.reduceEq, Int.reduceNe, Int.reduceAdd, Int.reduceSub, Int.reduceMul, Int.reduceNeg, Int.reduceToNat, Nat.reduceMul, Nat.reduceLT, Nat.reduceEqDiff, and_self, ite_true, ite_false, zx1, zx2, zRecv, List.length_cons, List.length_nil, ne_eq, not_true_eq_false, not_false_eq_true, true_or, or_true, or_false, false_or, and_false, false_and, zf01, zf10, reduceCtorEq, zSw_c, zSw_n, zm_r, zit_T, zit_F, false_implies, true_implies, y_Ma_join])
  have c0 : ∀ x y : Int, (zcmp x y = 0) = (x = y) := fun x y => by
    apply propext
    unfold zcmp
    repeat' split
    all_goals omega
  have c1 : ∀ x y : Int, (zcmp x y < 0) = (x < y) := fun x y => by
    apply propext
    unfold zcmp
    repeat' split
    all_goals omega
  have c2 : ∀ x y : Int, (0 < zcmp x y) = (y < x) := fun x y => by
    apply propext
    unfold zcmp
    repeat' split
    all_goals omega
  simp only [c0, c1, c2]
  have h1 := okV_div (b := b) ha
  have h2 := okV_mul ha hb
  unfold okV at ha hb
  have L : ∀ {x : Int}, -2000000000000000000 ≤ x → x ≤ 2000000000000000000 → zL x := fun p q => ⟨by omega, by omega⟩
  unfold jn
  refine zif (fun e => ⟨L (by omega) (by omega), by rw [if_pos e]⟩) (fun e6 => ?_)
  refine zif (fun e => ⟨L (by omega) (by omega), by rw [if_neg e6, if_pos e]⟩) (fun e7 => ?_)
  refine zif (fun e => ⟨L (by omega) (by omega), by rw [if_neg e6, if_neg e7, if_pos e]⟩) (fun e8 => ?_)
  refine zif (fun e => ⟨fun z => ⟨z, L (by omega) (by omega)⟩, by rw [if_neg e6, if_neg e7, if_neg e8, if_pos e, zit_e]⟩) (fun e9 => ?_)
  refine zif (fun e => ⟨fun z => ⟨z, L (by omega) (by omega)⟩, by rw [if_neg e6, if_neg e7, if_neg e8, if_neg e9, if_pos e, zit_e]⟩) (fun e10 => ?_)
  rw [if_neg e6, if_neg e7, if_neg e8, if_neg e9, if_neg e10]
  refine zif (fun e => by rw [if_pos e, zit_e]) (fun e11 => ?_)
  rw [if_neg e11]
  refine zif (fun e => by rw [if_pos e, zit_e]) (fun e12 => ?_)
  rw [if_neg e12]
  refine zif (fun e => by rw [if_pos e, zit_e]) (fun e13 => ?_)
  rw [if_neg e13]

