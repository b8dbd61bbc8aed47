/-! the reader's terms, sums -/
def pCat (cc : List Int) (R : PrR) : PrR := match R with
  | (t, none) => (t, none)
  | (t, some (l, m, c)) => (t, some (l, m, cc ++ c))
theorem pCat_cat {a b : List Int} {R : PrR} : pCat a (pCat b R) = pCat (a ++ b) R := by
  rcases R with ⟨t, _ | ⟨l, m, c⟩⟩
  · rfl
  · show (t, some (l, m, a ++ (b ++ c))) = (t, some (l, m, a ++ b ++ c))
    rw [List.append_assoc]
theorem pRow_n {c : Nat → Int} {op : Int → Int} {j : Bool} {pp : Pr} {t l w t1 : Nat} (h : pp t l w = (t1, none)) : pRow c op j pp t l w = (t1, none) := by
  unfold pRow
  rw [h]
theorem pRow_s {c : Nat → Int} {op : Int → Int} {j : Bool} {pp : Pr} {t l w t1 l1 : Nat} {m1 : Mn} {c1 : List Int} (h : pp t l w = (t1, some (l1, m1, c1))) : pRow c op j pp t l w = pCat c1 (pLoop c op j pp 400 m1 t1 l1 (w + c1.length)) := by
  unfold pRow
  rw [h]
  rfl
theorem pLoop_0 {c : Nat → Int} {op : Int → Int} {j : Bool} {pp : Pr} {f : Nat} {m : Mn} {t l w : Nat} (h : op (c t) = 0) : pLoop c op j pp f m t l w = (t, some (l, m, [])) := by
  cases f with
  | zero => rfl
  | succ f => rw [pLoop, if_pos h]
theorem pLoop_n {c : Nat → Int} {op : Int → Int} {j : Bool} {pp : Pr} {f : Nat} {m : Mn} {t l w t1 : Nat} (h : ¬ op (c t) = 0) (h1 : pp (t + 1) l (if j = true then w + 1 else w) = (t1, none)) : pLoop c op j pp (f + 1) m t l w = (t1, none) := by
  rw [pLoop, if_neg h, h1]
theorem pLoop_s {c : Nat → Int} {op : Int → Int} {j : Bool} {pp : Pr} {f : Nat} {m m1 : Mn} {t l w t1 l1 : Nat} {c1 : List Int} (h : ¬ op (c t) = 0) (h1 : pp (t + 1) l (if j = true then w + 1 else w) = (t1, some (l1, m1, c1))) : pLoop c op j pp (f + 1) m t l w = pCat (if j = true then (op (c t) * 4096 + ((w + c1.length + 1 : Nat) : Int)) :: c1 else c1 ++ [op (c t) * 4096]) (pLoop c op j pp f (mOp (op (c t)) m m1) t1 l1 (w + c1.length + 1)) := by
  rw [pLoop, if_neg h, h1]
  rfl
theorem Seg_c {p p' : Int → Int} {w : Nat} {c : List Int} (h : Seg p w c) (hc : ∀ i : Int, i < (w + c.length : Nat) → p' i = p i) : Seg p' w c := fun i hi => by
  rw [hc _ (by omega)]
  exact h i hi
theorem NT_le133 {B : Int → Int} {n : Nat} (hB : okB B n) (t : Nat) : NT (cT B n) t ≤ 133 := by
  have h1 := NT_ps (fun i hi => (hB.2 i hi).1) t
  have h2 := ps_le (B := B) (n := n) t
  have h3 := hB.1
  omega
theorem m_Re_part : Cond.instanceMethod y_Re_part.1 ∈ zTb ∧ Cond.selects y_Re_part.1.cls y_Re_part.1 y_Re_part.1 ∈ zTb ∧ Cond.initialized y_Re_part.1.cls ∈ zTb ∧ Cond.code y_Re_part.1 y_Re_part.2.1 y_Re_part.2.2.1 y_Re_part.2.2.2 ∈ zTb ∧ (y_Re_part.1.cls ≠ "java/lang/invoke/MethodHandle" ∧ y_Re_part.1.cls ≠ "java/lang/invoke/VarHandle" ∧ (parseMethodDescriptor y_Re_part.1.desc).map (fun d => d.parameters.length) = some 1) ∧ y_Re_part.2.2.1 ≤ 20 :=
  ⟨(zTb_in 832 (by decide +kernel) (by decide +kernel)), (List.mem_filter.mpr ⟨List.mem_append_left _ (by decide +kernel), by decide +kernel⟩), (zTb_in 143 (by decide +kernel) (by decide +kernel)), (zTb_in 833 (by decide +kernel) (by decide +kernel)), by decide +kernel, by decide +kernel⟩
theorem lv_Re_152 : zLv "DebtDoors$Reader" 152 y_Re_part 1 6 := ⟨⟨(zTb_in 830 (by decide +kernel) (by decide +kernel)), m_Re_part.1, m_Re_part.2.1, m_Re_part.2.2⟩, _, rfl, rfl⟩
theorem d_Re_term_0 : decode prog_8_method_23_code 0 = .ok (.aload_n 0, 1) := by decide +kernel
theorem d_Re_term_1 : decode prog_8_method_23_code 1 = .ok (.iload_n 1, 1) := by decide +kernel
theorem d_Re_term_2 : decode prog_8_method_23_code 2 = .ok (.invokevirtual 152, 3) := by decide +kernel
theorem d_Re_term_5 : decode prog_8_method_23_code 5 = .ok (.ifCond .ne 5, 3) := by decide +kernel
theorem d_Re_term_8 : decode prog_8_method_23_code 8 = .ok (.iconst 0, 1) := by decide +kernel
theorem d_Re_term_9 : decode prog_8_method_23_code 9 = .ok (.ireturn, 1) := by decide +kernel
theorem d_Re_term_10 : decode prog_8_method_23_code 10 = .ok (.iconst 0, 1) := by decide +kernel
theorem d_Re_term_11 : decode prog_8_method_23_code 11 = .ok (.istore_n 2, 1) := by decide +kernel
theorem d_Re_term_12 : decode prog_8_method_23_code 12 = .ok (.iload_n 2, 1) := by decide +kernel
theorem d_Re_term_13 : decode prog_8_method_23_code 13 = .ok (.sipush 400, 3) := by decide +kernel
theorem d_Re_term_16 : decode prog_8_method_23_code 16 = .ok (.if_icmp .ge 87, 3) := by decide +kernel
theorem d_Re_term_19 : decode prog_8_method_23_code 19 = .ok (.aload_n 0, 1) := by decide +kernel
theorem d_Re_term_20 : decode prog_8_method_23_code 20 = .ok (.bipush 42, 2) := by decide +kernel
theorem d_Re_term_22 : decode prog_8_method_23_code 22 = .ok (.invokevirtual 48, 3) := by decide +kernel
theorem d_Re_term_25 : decode prog_8_method_23_code 25 = .ok (.ifCond .ne 21, 3) := by decide +kernel
theorem d_Re_term_28 : decode prog_8_method_23_code 28 = .ok (.aload_n 0, 1) := by decide +kernel
theorem d_Re_term_29 : decode prog_8_method_23_code 29 = .ok (.bipush 47, 2) := by decide +kernel
theorem d_Re_term_31 : decode prog_8_method_23_code 31 = .ok (.invokevirtual 48, 3) := by decide +kernel
theorem d_Re_term_34 : decode prog_8_method_23_code 34 = .ok (.ifCond .ne 12, 3) := by decide +kernel
theorem d_Re_term_37 : decode prog_8_method_23_code 37 = .ok (.aload_n 0, 1) := by decide +kernel
theorem d_Re_term_38 : decode prog_8_method_23_code 38 = .ok (.bipush 37, 2) := by decide +kernel
theorem d_Re_term_40 : decode prog_8_method_23_code 40 = .ok (.invokevirtual 48, 3) := by decide +kernel
theorem d_Re_term_43 : decode prog_8_method_23_code 43 = .ok (.ifCond .eq 60, 3) := by decide +kernel
theorem d_Re_term_46 : decode prog_8_method_23_code 46 = .ok (.aload_n 0, 1) := by decide +kernel
theorem d_Re_term_47 : decode prog_8_method_23_code 47 = .ok (.bipush 42, 2) := by decide +kernel
theorem d_Re_term_49 : decode prog_8_method_23_code 49 = .ok (.invokevirtual 48, 3) := by decide +kernel
theorem d_Re_term_52 : decode prog_8_method_23_code 52 = .ok (.ifCond .eq 8, 3) := by decide +kernel
theorem d_Re_term_55 : decode prog_8_method_23_code 55 = .ok (.bipush 8, 2) := by decide +kernel
theorem d_Re_term_57 : decode prog_8_method_23_code 57 = .ok (.goto 19, 3) := by decide +kernel
theorem d_Re_term_60 : decode prog_8_method_23_code 60 = .ok (.aload_n 0, 1) := by decide +kernel
theorem d_Re_term_61 : decode prog_8_method_23_code 61 = .ok (.bipush 47, 2) := by decide +kernel
theorem d_Re_term_63 : decode prog_8_method_23_code 63 = .ok (.invokevirtual 48, 3) := by decide +kernel
theorem d_Re_term_66 : decode prog_8_method_23_code 66 = .ok (.ifCond .eq 8, 3) := by decide +kernel
theorem d_Re_term_69 : decode prog_8_method_23_code 69 = .ok (.bipush 9, 2) := by decide +kernel
theorem d_Re_term_71 : decode prog_8_method_23_code 71 = .ok (.goto 5, 3) := by decide +kernel
theorem d_Re_term_74 : decode prog_8_method_23_code 74 = .ok (.bipush 10, 2) := by decide +kernel
theorem d_Re_term_76 : decode prog_8_method_23_code 76 = .ok (.istore_n 3, 1) := by decide +kernel
theorem d_Re_term_77 : decode prog_8_method_23_code 77 = .ok (.aload_n 0, 1) := by decide +kernel
theorem d_Re_term_78 : decode prog_8_method_23_code 78 = .ok (.invokevirtual 38, 3) := by decide +kernel
theorem d_Re_term_81 : decode prog_8_method_23_code 81 = .ok (.aload_n 0, 1) := by decide +kernel
theorem d_Re_term_82 : decode prog_8_method_23_code 82 = .ok (.iload_n 1, 1) := by decide +kernel
theorem d_Re_term_83 : decode prog_8_method_23_code 83 = .ok (.invokevirtual 152, 3) := by decide +kernel
theorem d_Re_term_86 : decode prog_8_method_23_code 86 = .ok (.ifCond .ne 5, 3) := by decide +kernel
theorem d_Re_term_89 : decode prog_8_method_23_code 89 = .ok (.iconst 0, 1) := by decide +kernel
theorem d_Re_term_90 : decode prog_8_method_23_code 90 = .ok (.ireturn, 1) := by decide +kernel
theorem d_Re_term_91 : decode prog_8_method_23_code 91 = .ok (.aload_n 0, 1) := by decide +kernel
theorem d_Re_term_92 : decode prog_8_method_23_code 92 = .ok (.iload_n 3, 1) := by decide +kernel
theorem d_Re_term_93 : decode prog_8_method_23_code 93 = .ok (.iconst 0, 1) := by decide +kernel
theorem d_Re_term_94 : decode prog_8_method_23_code 94 = .ok (.invokevirtual 132, 3) := by decide +kernel
theorem d_Re_term_97 : decode prog_8_method_23_code 97 = .ok (.iinc 2 1, 3) := by decide +kernel
theorem d_Re_term_100 : decode prog_8_method_23_code 100 = .ok (.goto (-88), 3) := by decide +kernel
theorem d_Re_term_103 : decode prog_8_method_23_code 103 = .ok (.iconst 1, 1) := by decide +kernel
theorem d_Re_term_104 : decode prog_8_method_23_code 104 = .ok (.ireturn, 1) := by decide +kernel
def w_Re_term {d : Nat} (hd : 2 ≤ d) := (show SS ("DebtDoors$Reader", prog_8_method_23_code, 4) (some .boolean) d 0 0 0 0 _ from (sS (p1 := 10) (sIf (pn := 10) (tt := 8) (xNot (xJ1 (tgt := 10) k_ne (xV lv_Re_152 (xA (rAi (rAr rA0 (rAn 0 d_Re_term_0 rfl)) (rIn 1 d_Re_term_1 rfl))) (by decide) d_Re_term_2) d_Re_term_5 (by decide))) (sRz (xE (rI d_Re_term_8 rfl)) d_Re_term_9 rfl)) (sS (p1 := 103) (sS (p1 := 12) (sIn 2 (xE (rI d_Re_term_10 rfl)) d_Re_term_11 rfl (by decide)) (sLp (ps := 97) (tt := 46) (pn := 103) (p1 := 0) (p2 := 0) (xC (rAnd (mm := 19) (rNot (rJ2 (tgt := 103) j_ge (rIn 2 d_Re_term_12 rfl) (rSi d_Re_term_13 rfl) d_Re_term_16 (by decide))) (rOr (mm := 37) (rOr (mm := 28) (rJ1 (tgt := 46) k_ne (rV p_Re_isSign (Nat.le_trans (Nat.le_of_ble_eq_true rfl) hd) lv_Re_48 (rAi (rAr rA0 (rAn 0 d_Re_term_19 rfl)) (rB d_Re_term_20 rfl)) (by decide) d_Re_term_22) d_Re_term_25 (by decide)) (rJ1 (tgt := 46) k_ne (rV p_Re_isSign (Nat.le_trans (Nat.le_of_ble_eq_true rfl) hd) lv_Re_48 (rAi (rAr rA0 (rAn 0 d_Re_term_28 rfl)) (rB d_Re_term_29 rfl)) (by decide) d_Re_term_31) d_Re_term_34 (by decide))) (rNot (rJ1 (tgt := 103) k_eq (rV p_Re_isSign (Nat.le_trans (Nat.le_of_ble_eq_true rfl) hd) lv_Re_48 (rAi (rAr rA0 (rAn 0 d_Re_term_37 rfl)) (rB d_Re_term_38 rfl)) (by decide) d_Re_term_40) d_Re_term_43 (by decide)))))) (sS (p1 := 77) (sIn 3 (xE (rT2 (rNot (rJ1 (tgt := 60) k_eq (rV p_Re_isSign (Nat.le_trans (Nat.le_of_ble_eq_true rfl) hd) lv_Re_48 (rAi (rAr rA0 (rAn 0 d_Re_term_46 rfl)) (rB d_Re_term_47 rfl)) (by decide) d_Re_term_49) d_Re_term_52 (by decide))) (rGoE (p2 := 76) (rB d_Re_term_55 rfl) d_Re_term_57 (by decide)) (rT2 (rNot (rJ1 (tgt := 74) k_eq (rV p_Re_isSign (Nat.le_trans (Nat.le_of_ble_eq_true rfl) hd) lv_Re_48 (rAi (rAr rA0 (rAn 0 d_Re_term_60 rfl)) (rB d_Re_term_61 rfl)) (by decide) d_Re_term_63) d_Re_term_66 (by decide))) (rGoE (p2 := 76) (rB d_Re_term_69 rfl) d_Re_term_71 (by decide)) (rB d_Re_term_74 rfl)))) d_Re_term_76 rfl (by decide)) (sS (p1 := 81) (sV (xVv lv_Re_38 (xA (rAr rA0 (rAn 0 d_Re_term_77 rfl))) (by decide) d_Re_term_78)) (sS (p1 := 91) (sIf (pn := 91) (tt := 89) (xNot (xJ1 (tgt := 91) k_ne (xV lv_Re_152 (xA (rAi (rAr rA0 (rAn 0 d_Re_term_81 rfl)) (rIn 1 d_Re_term_82 rfl))) (by decide) d_Re_term_83) d_Re_term_86 (by decide))) (sRz (xE (rI d_Re_term_89 rfl)) d_Re_term_90 rfl)) (sV (xVv lv_Re_132 (xA (rAi (rAi (rAr rA0 (rAn 0 d_Re_term_91 rfl)) (rIn 3 d_Re_term_92 rfl)) (rI d_Re_term_93 rfl))) (by decide) d_Re_term_94))))) (sGo (pn := 12) (sInc d_Re_term_97 (by decide)) d_Re_term_100 (by decide)))) (sRz (xE (rI d_Re_term_103 rfl)) d_Re_term_104 rfl))))
set_option maxRecDepth 20000 in
theorem q_Re_term {d dp : Nat} (hd : 6 ≤ d) (hdp : dp + 1 ≤ d) {B : Int → Int} {n : Nat} {o : Bool} {pp : Pr} {b : Int} (hB : okB B n) (hG : PG (cT B n) n pp) (hp : CT dp y_Re_part [vi b] B n o pp) : CT d y_Re_term [vi b] B n o (pRow (cT B n) oTerm false pp) := by
  intro μ t l w h hl ht hw
  have hB1 := hB.1
  refine zSp.ss [vr 321, vi b, vx 0, vx 0] rfl (w_Re_term (Nat.le_trans (by decide) hd)) rfl rfl ?_
  (try simp only [zit_e, Bool.and_eq_true, Bool.or_eq_true, Bool.not_eq_true', Bool.and_eq_false_iff, Bool.or_eq_false_iff, Bool.not_eq_false', zbe, zdt, zdf, zb2_p, zbp_0, zbp_1, zbp_inj, zbp_01, Bool.true_eq_false, Bool.false_eq_true, true_and, and_true, Decidable.not_not, Classical.not_not, implies_true, List.nil_append, List.cons_append, List.append_assoc, Option.some.injEq, Sum.inl.injEq, zSw_c, zSw_n]); (try simp only [zit_e, Bool.and_eq_true, Bool.or_eq_true, Bool.not_eq_true', Bool.and_eq_false_iff, Bool.or_eq_false_iff, Bool.not_eq_false', zbe, zdt, zdf, zb2_p, zbp_0, zbp_1, zbp_inj, zbp_01, Bool.true_eq_false, Bool.false_eq_true, true_and, and_true, Decidable.not_not, Classical.not_not, implies_true, List.nil_append, List.cons_append, List.append_assoc, Option.some.injEq, Sum.inl.injEq, zSw_c, zSw_n, zc_321, f_Re_isSign, g_Re_isSign]); (try simp only [zi_cs, zi_c0, zii_cs, zii_c0, zl_cs, zl_c0, zll_cs, zll_c0, zr_cs, zr_c0, zrr_cs, zrr_c0, zxs_cs, zxs_c0, zxx_cs, zxx_c0, zfree_c0, zfree_c1, zfree_cs, zfree_cz, zlong_i, zlong_r, zlong_x, zset_0, zset_s, true_and, and_true, Option.some.injEq, Sum.inl.injEq, Sum.inr.injEq, zb2_p, zbp_0, zbp_1, zbp_inj, zbp_01, Nat.zero_add, Nat.reduceAdd, implies_true, List.nil_append, List.cons_append, List.append_assoc, Int.not_lt, Int.not_le, Decidable.not_not, Int.zero_add, Int.reduceLE, Int.reduceLT, Int.reduceEq, Int.reduceNe, Int.reduceAdd, Int.reduceSub, Int.reduceMul, Int.reduceNeg, Int.reduceToNat, Nat.reduceMul, Nat.reduceLT, Nat.reduceEqDiff, and_self, ite_true, ite_false, zx1, zx2, zRecv, List.length_cons, List.length_nil, ne_eq, not_true_eq_false, not_false_eq_true, true_or, or_true, or_false, false_or, and_false, false_and, zf01, zf10, reduceCtorEq, zSw_c, zSw_n, zm_r, zit_T, zit_F, false_implies, true_implies, zc_321, f_Re_isSign, g_Re_isSign])
  refine zCw.use (hp μ t l w h hl ht hw) hdp (fun r μ1 e => ?_)
  have hg := hG t l w hl ht
  rcases h1 : pp t l w with ⟨t1, _ | ⟨l1, m1, c1⟩⟩
  · obtain ⟨rfl, e1, e2⟩ := e.1 _ h1
    exact ⟨0, rfl, by rw [if_pos rfl, pRow_n h1]; exact RP_n rfl e1 e2⟩
  obtain ⟨rfl, e1, e2, e3, e4⟩ := e.2 _ _ _ _ h1
  have hg1 := hg.2 _ _ _ _ h1
  refine ⟨1, rfl, ?_⟩
  rw [if_neg (by decide)]
  generalize hR : pRow (cT B n) oTerm false pp t l w = R
  rw [pRow_s h1] at hR
  refine zLoop.up 400 (fun j ρ μ2 => ∃ (x3 : zV) (t1 l1 : Nat) (m1 : Mn) (cc : List Int), ρ = [vr 321, vi b, vi j, x3] ∧ PSt B n o t1 l1 (w + cc.length) μ2 ∧ Seg (μ2 323) w cc ∧ (∀ i : Int, i < w → μ2 323 i = μ 323 i) ∧ FR μ μ2 ∧ (l1 ≤ 50 ∧ t1 ≤ n ∧ w + cc.length + 1 ≤ 85 + 2 * l1 + NT (cT B n) t1) ∧ R = pCat cc (pLoop (cT B n) oTerm false pp (400 - j) m1 t1 l1 (w + cc.length))) ⟨vx 0, t1, l1, m1, c1, rfl, e1, e2, e3, e4, by omega, hR.symm⟩ ?_
  clear hR e1 e2 e3 e4 hg1 h1 e hg
  rintro j ρ μ2 hj ⟨x3, t1, l1, m1, cc, rfl, hP, hS, hlo, hF, hbd, hR⟩
  have s1 := RD_sign (s := 42) hP.1 (by decide) (by decide) (by decide)
  have s2 := RD_sign (s := 47) hP.1 (by decide) (by decide) (by decide)
  have s3 := RD_sign (s := 37) hP.1 (by decide) (by decide) (by decide)
  have hpp := RD_p hP.1
  have hnum := RD_num hB hP.1
  (try simp only [zit_e, Bool.and_eq_true, Bool.or_eq_true, Bool.not_eq_true', Bool.and_eq_false_iff, Bool.or_eq_false_iff, Bool.not_eq_false', zbe, zdt, zdf, zb2_p, zbp_0, zbp_1, zbp_inj, zbp_01, Bool.true_eq_false, Bool.false_eq_true, true_and, and_true, Decidable.not_not, Classical.not_not, implies_true, List.nil_append, List.cons_append, List.append_assoc, Option.some.injEq, Sum.inl.injEq, zSw_c, zSw_n]); (try simp only [zit_e, Bool.and_eq_true, Bool.or_eq_true, Bool.not_eq_true', Bool.and_eq_false_iff, Bool.or_eq_false_iff, Bool.not_eq_false', zbe, zdt, zdf, zb2_p, zbp_0, zbp_1, zbp_inj, zbp_01, Bool.true_eq_false, Bool.false_eq_true, true_and, and_true, Decidable.not_not, Classical.not_not, implies_true, List.nil_append, List.cons_append, List.append_assoc, Option.some.injEq, Sum.inl.injEq, zSw_c, zSw_n, zc_321, f_Re_isSign, g_Re_isSign]); (try simp only [zi_cs, zi_c0, zii_cs, zii_c0, zl_cs, zl_c0, zll_cs, zll_c0, zr_cs, zr_c0, zrr_cs, zrr_c0, zxs_cs, zxs_c0, zxx_cs, zxx_c0, zfree_c0, zfree_c1, zfree_cs, zfree_cz, zlong_i, zlong_r, zlong_x, zset_0, zset_s, true_and, and_true, Option.some.injEq, Sum.inl.injEq, Sum.inr.injEq, zb2_p, zbp_0, zbp_1, zbp_inj, zbp_01, Nat.zero_add, Nat.reduceAdd, implies_true, List.nil_append, List.cons_append, List.append_assoc, Int.not_lt, Int.not_le, Decidable.not_not, Int.zero_add, Int.reduceLE, Int.reduceLT, Int.reduceEq, Int.reduceNe, Int.reduceAdd, Int.reduceSub, Int.reduceMul, Int.reduceNeg, Int.reduceToNat, Nat.reduceMul, Nat.reduceLT, Nat.reduceEqDiff, and_self, ite_true, ite_false, zx1, zx2, zRecv, List.length_cons, List.length_nil, ne_eq, not_true_eq_false, not_false_eq_true, true_or, or_true, or_false, false_or, and_false, false_and, zf01, zf10, reduceCtorEq, zSw_c, zSw_n, zm_r, zit_T, zit_F, false_implies, true_implies, zc_321, f_Re_isSign, g_Re_isSign])
  have hq8 : μ2 321 7 = 3 → 0 ≤ μ2 321 8 ∧ μ2 321 8 < 400 := fun q => by have := hnum.2.2; omega
  refine ⟨fun _ => ⟨⟨hq8, fun _ => hq8⟩, fun _ => hq8⟩, ?_⟩
  refine zif (fun c => ?_) (fun c => ?_)
  · have hov : zit (μ2 321 7 = 3 ∧ μ2 322 (μ2 321 8) = 42) 8 (zit (μ2 321 7 = 3 ∧ μ2 322 (μ2 321 8) = 47) 9 10) = oTerm (cT B n t1) := by
      simp only [s1, s2, s3] at c ⊢
      unfold oTerm zit
      repeat' split
      all_goals omega
    have hop : ¬ oTerm (cT B n t1) = 0 := by
      simp only [s1, s2, s3] at c
      unfold oTerm
      repeat' split
      all_goals omega
    have htn : t1 < n := zNlt (c := cT B n) (fun u hu => cT_N u hu) (fun q => hop (by rw [q]; rfl))
    have hmo := NT_mono (c := cT B n) (t := t1) 1
    rw [hov]
    refine ⟨⟨hq8, fun _ => hq8⟩, nx_w (by omega) hB hP (fun μ3 a1 a2 a3 => ⟨rfl, ?_⟩)⟩
    refine zCw.use (hp μ3 (t1 + 1) l1 (w + cc.length) a1 hbd.1 htn (by omega)) hdp (fun r μ4 e => ?_)
    have hg := hG (t1 + 1) l1 (w + cc.length) hbd.1 htn
    rcases h1 : pp (t1 + 1) l1 (w + cc.length) with ⟨t2, _ | ⟨l2, m2, c2⟩⟩
    · obtain ⟨rfl, e1, e2⟩ := e.1 _ h1
      rw [show 400 - j = (400 - (j + 1)) + 1 by omega, pLoop_n hop h1] at hR
      refine ⟨0, rfl, ?_⟩
      rw [if_pos rfl, hR]
      exact RP_n rfl e1 ((hF.tr a2).tr e2)
    obtain ⟨rfl, e1, e2, e3, e4⟩ := e.2 _ _ _ _ h1
    have hg1 := hg.2 _ _ _ _ h1
    rw [show 400 - j = (400 - (j + 1)) + 1 by omega, pLoop_s hop h1, pCat_cat] at hR
    have h133 := NT_le133 hB t2
    refine ⟨1, rfl, ?_⟩
    rw [if_neg (by decide)]
    have hoi := oTerm_ok (cT B n t1)
    simp only [Bool.false_eq_true, if_false] at hoi hR
    refine wr_w (by omega) e1 (by omega) (by omega) (by decide) (fun μ5 b1 b2 b3 b4 => ⟨rfl, zI_s (by omega) (by omega), znx (by omega) ⟨_, t2, l2, mOp (oTerm (cT B n t1)) m1 m2, cc ++ (c2 ++ [oTerm (cT B n t1) * 4096]), rfl, ?_, ?_, fun i hi => ?_, ((hF.tr a2).tr e4).tr b2, ?_, ?_⟩⟩)
    · simp only [List.length_append, List.length_cons, List.length_nil]
      rw [show w + (cc.length + (c2.length + (0 + 1))) = w + cc.length + c2.length + 1 by omega]
      exact b1
    · rw [Seg_app, Seg_app]
      refine ⟨Seg_c hS (fun i hi => ?_), Seg_c e2 (fun i hi => ?_), Seg1 ?_⟩
      · rw [b4 i (by omega), e3 i (by omega), a3]
      · rw [b4 i (by omega)]
      · rw [b3]
        omega
    · rw [b4 i (by omega), e3 i (by omega), a3]
      exact hlo i hi
    · simp only [List.length_append, List.length_cons, List.length_nil]
      omega
    · simp only [List.length_append, List.length_cons, List.length_nil]
      rw [hR, show w + (cc.length + (c2.length + (0 + 1))) = w + cc.length + c2.length + 1 by omega]
  · have hop : j = 400 ∨ oTerm (cT B n t1) = 0 := by
      simp only [s1, s2, s3] at c
      unfold oTerm
      repeat' split
      all_goals omega
    have hz : pLoop (cT B n) oTerm false pp (400 - j) m1 t1 l1 (w + cc.length) = (t1, some (l1, m1, [])) := by
      rcases hop with rfl | hop
      · rfl
      · exact pLoop_0 hop
    rw [hz] at hR
    rw [hR]
    exact RP_s rfl (by rw [List.append_nil]; exact hP) (by rw [List.append_nil]; exact hS) hlo hF

