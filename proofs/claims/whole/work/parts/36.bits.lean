/-! bits -/
theorem zbn {a : Nat} (h : a < 2147483648) : (Int32.ofInt (a : Int)).toBitVec.toNat = a := by
  show (BitVec.ofInt 32 (a : Int)).toNat = a
  rw [BitVec.toNat_ofInt]
  omega
theorem zbi {x : BitVec 32} {n : Nat} (h : x.toNat = n) (hn : n < 2147483648) : x.toInt = (n : Int) := by
  rw [BitVec.toInt_eq_toNat_of_lt (by omega), h]
theorem zand_n {a b : Nat} (ha : a < 2147483648) (hb : b < 2147483648) : zand a b = ((a &&& b : Nat) : Int) := by
  show ((Int32.ofInt (a : Int)).toBitVec &&& (Int32.ofInt (b : Int)).toBitVec).toInt = _
  refine zbi ?_ (Nat.lt_of_le_of_lt Nat.and_le_left ha)
  rw [BitVec.toNat_and, zbn ha, zbn hb]
theorem zor_n {a b : Nat} (ha : a < 2147483648) (hb : b < 2147483648) : zor a b = ((a ||| b : Nat) : Int) := by
  show ((Int32.ofInt (a : Int)).toBitVec ||| (Int32.ofInt (b : Int)).toBitVec).toInt = _
  refine zbi ?_ (Nat.or_lt_two_pow (n := 31) ha hb)
  rw [BitVec.toNat_or, zbn ha, zbn hb]
theorem zk31 : (List.range 32).all (fun k => (((Int32.ofInt (k : Int)) &&& 31).toBitVec.smod 32).toNat == k) = true := by decide +kernel
theorem zshr_n {a k : Nat} (ha : a < 2147483648) (hk : k < 32) : zshr a k = ((a >>> k : Nat) : Int) := by
  have h1 : (((Int32.ofInt (k : Int)) &&& 31).toBitVec.smod 32).toNat = k := by
    have := List.all_eq_true.mp zk31 k (List.mem_range.mpr hk)
    simpa using this
  show ((Int32.ofInt (a : Int)).toBitVec.sshiftRight (((Int32.ofInt (k : Int)) &&& 31).toBitVec.smod 32).toNat).toInt = _
  rw [h1, BitVec.toInt_sshiftRight, zbi (zbn ha) ha]
  rfl
theorem zshl_all : (List.range 31).all (fun k => zshl 1 (k : Int) == ((2 ^ k : Nat) : Int)) = true := by decide +kernel
theorem zshl_n {k : Nat} (hk : k < 31) : zshl 1 k = ((2 ^ k : Nat) : Int) := by
  have := List.all_eq_true.mp zshl_all k (List.mem_range.mpr hk)
  simpa using this
/-- a set holds a number -/
def zbit (s k : Int) : Prop := s.toNat.testBit k.toNat = true
theorem zbit_e {s k : Int} (h0 : 0 ≤ s) (h1 : s < 2147483648) (h2 : 0 ≤ k) (h3 : k < 31) : zand (zshr s k) 1 = zbp (zbit s k) := by
  obtain ⟨a, rfl⟩ := Int.eq_ofNat_of_zero_le h0
  obtain ⟨b, rfl⟩ := Int.eq_ofNat_of_zero_le h2
  have hb : b < 32 := by omega
  have ha : a < 2147483648 := by omega
  have hs : a >>> b < 2147483648 := by rw [Nat.shiftRight_eq_div_pow]; exact Nat.lt_of_le_of_lt (Nat.div_le_self _ _) ha
  rw [zshr_n ha hb, show (1 : Int) = ((1 : Nat) : Int) from rfl, zand_n hs (by decide)]
  unfold zbit
  rw [Int.toNat_natCast, Int.toNat_natCast, Nat.testBit, Nat.and_comm]
  have h9 : (1 &&& a >>> b) = (a >>> b) % 2 := by rw [Nat.and_comm, Nat.and_one_is_mod]
  rw [h9]
  rcases Nat.mod_two_eq_zero_or_one (a >>> b) with e | e
  · rw [e, zbf (by simp)]; rfl
  · rw [e, zbt (by simp)]; rfl
def y_M_isIn : zMt := (⟨"DebtDoorsModel", "isIn", "(II)Z"⟩, prog_14_method_5_code, 2, some .boolean)
theorem d_M_isIn_0 : decode prog_14_method_5_code 0 = .ok (.iload_n 0, 1) := by decide +kernel
theorem d_M_isIn_1 : decode prog_14_method_5_code 1 = .ok (.iload_n 1, 1) := by decide +kernel
theorem d_M_isIn_2 : decode prog_14_method_5_code 2 = .ok (.ishr, 1) := by decide +kernel
theorem d_M_isIn_3 : decode prog_14_method_5_code 3 = .ok (.iconst 1, 1) := by decide +kernel
theorem d_M_isIn_4 : decode prog_14_method_5_code 4 = .ok (.iand, 1) := by decide +kernel
theorem d_M_isIn_5 : decode prog_14_method_5_code 5 = .ok (.iconst 1, 1) := by decide +kernel
theorem d_M_isIn_6 : decode prog_14_method_5_code 6 = .ok (.if_icmp .ne 7, 3) := by decide +kernel
theorem d_M_isIn_9 : decode prog_14_method_5_code 9 = .ok (.iconst 1, 1) := by decide +kernel
theorem d_M_isIn_10 : decode prog_14_method_5_code 10 = .ok (.goto 4, 3) := by decide +kernel
theorem d_M_isIn_13 : decode prog_14_method_5_code 13 = .ok (.iconst 0, 1) := by decide +kernel
theorem d_M_isIn_14 : decode prog_14_method_5_code 14 = .ok (.ireturn, 1) := by decide +kernel
def w_M_isIn {d : Nat} (hd : 1 ≤ d) := (show SS ("DebtDoorsModel", prog_14_method_5_code, 2) (some .boolean) d 0 0 0 0 _ from (sRz (xE (rTb (rNot (rJ2 (tgt := 13) j_ne (r2 o_and (r2 o_shr (rIn 0 d_M_isIn_0 rfl) (rIn 1 d_M_isIn_1 rfl) d_M_isIn_2) (rI d_M_isIn_3 rfl) d_M_isIn_4) (rI d_M_isIn_5 rfl) d_M_isIn_6 (by decide))) (rGoE (p2 := 14) (rI d_M_isIn_9 rfl) d_M_isIn_10 (by decide)) (rI d_M_isIn_13 rfl))) d_M_isIn_14 rfl))
noncomputable def f_M_isIn : List zV → zMem → Int
  | [.inl s, .inl k], μ => zbp (zbit s k)
  | _, _ => 0
def g_M_isIn : List zV → zMem → Prop
  | [.inl s, .inl k], μ => ((0 ≤ s ∧ s < 2147483648) ∧ 0 ≤ k ∧ k < 31)
  | _, _ => False
theorem p_M_isIn : zPu y_M_isIn 1 f_M_isIn g_M_isIn := by
  intro as μ h
  unfold g_M_isIn at h
  split at h
  · next s k =>
    refine zSp.ss [vi s, vi k] rfl (w_M_isIn (Nat.le_refl _)) rfl rfl ?_
    (try simp only [zit_e, Bool.and_eq_true, Bool.or_eq_true, Bool.not_eq_true', Bool.and_eq_false_iff, Bool.or_eq_false_iff, Bool.not_eq_false', zbe, zdt, zdf, zb2_p, zbp_0, zbp_1, zbp_inj, zbp_01, Bool.true_eq_false, Bool.false_eq_true, true_and, and_true, Decidable.not_not, Classical.not_not, implies_true, List.nil_append, List.cons_append, List.append_assoc, Option.some.injEq, Sum.inl.injEq, zSw_c, zSw_n]); (try simp only [zit_e, Bool.and_eq_true, Bool.or_eq_true, Bool.not_eq_true', Bool.and_eq_false_iff, Bool.or_eq_false_iff, Bool.not_eq_false', zbe, zdt, zdf, zb2_p, zbp_0, zbp_1, zbp_inj, zbp_01, Bool.true_eq_false, Bool.false_eq_true, true_and, and_true, Decidable.not_not, Classical.not_not, implies_true, List.nil_append, List.cons_append, List.append_assoc, Option.some.injEq, Sum.inl.injEq, zSw_c, zSw_n, f_M_isIn]); (try simp only [zi_cs, zi_c0, zii_cs, zii_c0, zl_cs, zl_c0, zll_cs, zll_c0, zr_cs, zr_c0, zrr_cs, zrr_c0, zxs_cs, zxs_c0, zxx_cs, zxx_c0, zfree_c0, zfree_c1, zfree_cs, zfree_cz, zlong_i, zlong_r, zlong_x, zset_0, zset_s, true_and, and_true, Option.some.injEq, Sum.inl.injEq, Sum.inr.injEq, zb2_p, zbp_0, zbp_1, zbp_inj, zbp_01, Nat.zero_add, Nat.reduceAdd, implies_true, List.nil_append, List.cons_append, List.append_assoc, Int.not_lt, Int.not_le, Decidable.not_not, Int.zero_add, Int.reduceLE, Int.reduceLT, Int.reduceEq, Int.reduceNe, Int.reduceAdd, Int.reduceSub, Int.reduceMul, Int.reduceNeg, Int.reduceToNat, Nat.reduceMul, Nat.reduceLT, Nat.reduceEqDiff, and_self, ite_true, ite_false, zx1, zx2, zRecv, List.length_cons, List.length_nil, ne_eq, not_true_eq_false, not_false_eq_true, true_or, or_true, or_false, false_or, and_false, false_and, zf01, zf10, reduceCtorEq, zSw_c, zSw_n, zm_r, zit_T, zit_F, false_implies, true_implies, f_M_isIn])
    rw [zbit_e h.1.1 h.1.2 h.2.1 h.2.2]
    simp only [zbp_0, zbp_1, zbp_inj, zbp_F, zbp_T]
    exact ⟨(Classical.em _).symm, trivial⟩
  · exact h.elim
/-- how many of the first n numbers a set holds -/
noncomputable def onN (s : Int) : Nat → Int
  | 0 => 0
  | k + 1 => onN s k + zbp (zbit s k)
theorem onN_in {s : Int} : ∀ k : Nat, 0 ≤ onN s k ∧ onN s k ≤ k
  | 0 => by simp [onN]
  | k + 1 => by
    have := onN_in (s := s) k
    have h2 : zbp (zbit s k) = 0 ∨ zbp (zbit s k) = 1 := by rw [zbp_01]; trivial
    unfold onN
    omega
def y_M_ones : zMt := (⟨"DebtDoorsModel", "ones", "(I)I"⟩, prog_14_method_6_code, 3, some .int)
theorem d_M_ones_0 : decode prog_14_method_6_code 0 = .ok (.iconst 0, 1) := by decide +kernel
theorem d_M_ones_1 : decode prog_14_method_6_code 1 = .ok (.istore_n 1, 1) := by decide +kernel
theorem d_M_ones_2 : decode prog_14_method_6_code 2 = .ok (.iconst 0, 1) := by decide +kernel
theorem d_M_ones_3 : decode prog_14_method_6_code 3 = .ok (.istore_n 2, 1) := by decide +kernel
theorem d_M_ones_4 : decode prog_14_method_6_code 4 = .ok (.iload_n 2, 1) := by decide +kernel
theorem d_M_ones_5 : decode prog_14_method_6_code 5 = .ok (.bipush 16, 2) := by decide +kernel
theorem d_M_ones_7 : decode prog_14_method_6_code 7 = .ok (.if_icmp .ge 17, 3) := by decide +kernel
theorem d_M_ones_10 : decode prog_14_method_6_code 10 = .ok (.iload_n 1, 1) := by decide +kernel
theorem d_M_ones_11 : decode prog_14_method_6_code 11 = .ok (.iload_n 0, 1) := by decide +kernel
theorem d_M_ones_12 : decode prog_14_method_6_code 12 = .ok (.iload_n 2, 1) := by decide +kernel
theorem d_M_ones_13 : decode prog_14_method_6_code 13 = .ok (.ishr, 1) := by decide +kernel
theorem d_M_ones_14 : decode prog_14_method_6_code 14 = .ok (.iconst 1, 1) := by decide +kernel
theorem d_M_ones_15 : decode prog_14_method_6_code 15 = .ok (.iand, 1) := by decide +kernel
theorem d_M_ones_16 : decode prog_14_method_6_code 16 = .ok (.iadd, 1) := by decide +kernel
theorem d_M_ones_17 : decode prog_14_method_6_code 17 = .ok (.istore_n 1, 1) := by decide +kernel
theorem d_M_ones_18 : decode prog_14_method_6_code 18 = .ok (.iinc 2 1, 3) := by decide +kernel
theorem d_M_ones_21 : decode prog_14_method_6_code 21 = .ok (.goto (-17), 3) := by decide +kernel
theorem d_M_ones_24 : decode prog_14_method_6_code 24 = .ok (.iload_n 1, 1) := by decide +kernel
theorem d_M_ones_25 : decode prog_14_method_6_code 25 = .ok (.ireturn, 1) := by decide +kernel
def w_M_ones {d : Nat} (hd : 1 ≤ d) := (show SS ("DebtDoorsModel", prog_14_method_6_code, 3) (some .int) d 0 0 0 0 _ from (sS (p1 := 2) (sIn 1 (xE (rI d_M_ones_0 rfl)) d_M_ones_1 rfl (by decide)) (sS (p1 := 24) (sS (p1 := 4) (sIn 2 (xE (rI d_M_ones_2 rfl)) d_M_ones_3 rfl (by decide)) (sLp (ps := 18) (tt := 10) (pn := 24) (p1 := 0) (p2 := 0) (xC (rNot (rJ2 (tgt := 24) j_ge (rIn 2 d_M_ones_4 rfl) (rB d_M_ones_5 rfl) d_M_ones_7 (by decide)))) (sIn 1 (xE (r2 o_add (rIn 1 d_M_ones_10 rfl) (r2 o_and (r2 o_shr (rIn 0 d_M_ones_11 rfl) (rIn 2 d_M_ones_12 rfl) d_M_ones_13) (rI d_M_ones_14 rfl) d_M_ones_15) d_M_ones_16)) d_M_ones_17 rfl (by decide)) (sGo (pn := 4) (sInc d_M_ones_18 (by decide)) d_M_ones_21 (by decide)))) (sRi (xE (rIn 1 d_M_ones_24 rfl)) d_M_ones_25 rfl))))
noncomputable def f_M_ones : List zV → zMem → Int
  | [.inl s], μ => onN s 16
  | _, _ => 0
def g_M_ones : List zV → zMem → Prop
  | [.inl s], μ => (0 ≤ s ∧ s < 2147483648)
  | _, _ => False
theorem p_M_ones : zPu y_M_ones 1 f_M_ones g_M_ones := by
  intro as μ h
  unfold g_M_ones at h
  split at h
  · next s =>
    refine zSp.ss [vi s, vx 0, vx 0] rfl (w_M_ones (Nat.le_refl _)) rfl rfl ?_
    (try simp only [zit_e, Bool.and_eq_true, Bool.or_eq_true, Bool.not_eq_true', Bool.and_eq_false_iff, Bool.or_eq_false_iff, Bool.not_eq_false', zbe, zdt, zdf, zb2_p, zbp_0, zbp_1, zbp_inj, zbp_01, Bool.true_eq_false, Bool.false_eq_true, true_and, and_true, Decidable.not_not, Classical.not_not, implies_true, List.nil_append, List.cons_append, List.append_assoc, Option.some.injEq, Sum.inl.injEq, zSw_c, zSw_n]); (try simp only [zit_e, Bool.and_eq_true, Bool.or_eq_true, Bool.not_eq_true', Bool.and_eq_false_iff, Bool.or_eq_false_iff, Bool.not_eq_false', zbe, zdt, zdf, zb2_p, zbp_0, zbp_1, zbp_inj, zbp_01, Bool.true_eq_false, Bool.false_eq_true, true_and, and_true, Decidable.not_not, Classical.not_not, implies_true, List.nil_append, List.cons_append, List.append_assoc, Option.some.injEq, Sum.inl.injEq, zSw_c, zSw_n, f_M_ones]); (try simp only [zi_cs, zi_c0, zii_cs, zii_c0, zl_cs, zl_c0, zll_cs, zll_c0, zr_cs, zr_c0, zrr_cs, zrr_c0, zxs_cs, zxs_c0, zxx_cs, zxx_c0, zfree_c0, zfree_c1, zfree_cs, zfree_cz, zlong_i, zlong_r, zlong_x, zset_0, zset_s, true_and, and_true, Option.some.injEq, Sum.inl.injEq, Sum.inr.injEq, zb2_p, zbp_0, zbp_1, zbp_inj, zbp_01, Nat.zero_add, Nat.reduceAdd, implies_true, List.nil_append, List.cons_append, List.append_assoc, Int.not_lt, Int.not_le, Decidable.not_not, Int.zero_add, Int.reduceLE, Int.reduceLT, Int.reduceEq, Int.reduceNe, Int.reduceAdd, Int.reduceSub, Int.reduceMul, Int.reduceNeg, Int.reduceToNat, Nat.reduceMul, Nat.reduceLT, Nat.reduceEqDiff, and_self, ite_true, ite_false, zx1, zx2, zRecv, List.length_cons, List.length_nil, ne_eq, not_true_eq_false, not_false_eq_true, true_or, or_true, or_false, false_or, and_false, false_and, zf01, zf10, reduceCtorEq, zSw_c, zSw_n, zm_r, zit_T, zit_F, false_implies, true_implies, f_M_ones])
    refine zLoop.up 16 (fun j ρ μ1 => ρ = [vi s, vi (onN s j), vi j] ∧ μ = μ1) ⟨rfl, rfl⟩ ?_
    rintro j ρ μ1 hj ⟨rfl, rfl⟩
    (try simp only [zit_e, Bool.and_eq_true, Bool.or_eq_true, Bool.not_eq_true', Bool.and_eq_false_iff, Bool.or_eq_false_iff, Bool.not_eq_false', zbe, zdt, zdf, zb2_p, zbp_0, zbp_1, zbp_inj, zbp_01, Bool.true_eq_false, Bool.false_eq_true, true_and, and_true, Decidable.not_not, Classical.not_not, implies_true, List.nil_append, List.cons_append, List.append_assoc, Option.some.injEq, Sum.inl.injEq, zSw_c, zSw_n]); (try simp only [zit_e, Bool.and_eq_true, Bool.or_eq_true, Bool.not_eq_true', Bool.and_eq_false_iff, Bool.or_eq_false_iff, Bool.not_eq_false', zbe, zdt, zdf, zb2_p, zbp_0, zbp_1, zbp_inj, zbp_01, Bool.true_eq_false, Bool.false_eq_true, true_and, and_true, Decidable.not_not, Classical.not_not, implies_true, List.nil_append, List.cons_append, List.append_assoc, Option.some.injEq, Sum.inl.injEq, zSw_c, zSw_n, f_M_ones]); (try simp only [zi_cs, zi_c0, zii_cs, zii_c0, zl_cs, zl_c0, zll_cs, zll_c0, zr_cs, zr_c0, zrr_cs, zrr_c0, zxs_cs, zxs_c0, zxx_cs, zxx_c0, zfree_c0, zfree_c1, zfree_cs, zfree_cz, zlong_i, zlong_r, zlong_x, zset_0, zset_s, true_and, and_true, Option.some.injEq, Sum.inl.injEq, Sum.inr.injEq, zb2_p, zbp_0, zbp_1, zbp_inj, zbp_01, Nat.zero_add, Nat.reduceAdd, implies_true, List.nil_append, List.cons_append, List.append_assoc, Int.not_lt, Int.not_le, Decidable.not_not, Int.zero_add, Int.reduceLE, Int.reduceLT, Int.reduceEq, Int.reduceNe, Int.reduceAdd, Int.reduceSub, Int.reduceMul, Int.reduceNeg, Int.reduceToNat, Nat.reduceMul, Nat.reduceLT, Nat.reduceEqDiff, and_self, ite_true, ite_false, zx1, zx2, zRecv, List.length_cons, List.length_nil, ne_eq, not_true_eq_false, not_false_eq_true, true_or, or_true, or_false, false_or, and_false, false_and, zf01, zf10, reduceCtorEq, zSw_c, zSw_n, zm_r, zit_T, zit_F, false_implies, true_implies, f_M_ones])
    refine zif (fun c => ?_) (fun c => ?_)
    · have h1 := onN_in (s := s) (j + 1)
      have e : onN s (j + 1) = onN s j + zbp (zbit s j) := rfl
      rw [zbit_e h.1 h.2 (by omega) (by omega), ← e]
      exact ⟨zI_s (by omega) (by omega), zI_s (by omega) (by omega), znx (by omega) rfl⟩
    · rw [show j = 16 by omega]
  · exact h.elim

