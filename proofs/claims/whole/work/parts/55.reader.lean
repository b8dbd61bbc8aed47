/-! the reader's small methods -/
theorem RD_p {B : Int → Int} {n t : Nat} {μ : zMem} (h : RD B n t μ) : (μ 321 8 = (ps B n t : Int) ∧ ps B n t ≤ n) ∧ (μ 321 8 ≤ μ 321 9 ∧ μ 321 9 ≤ n) := by
  obtain ⟨⟨h1, h2⟩, h3, h4, h5⟩ := h
  have hp := ps_le (B := B) (n := n) t
  have hti := tE_in (B := B) (n := n) (k := ps B n t)
  refine ⟨⟨h3, hp⟩, ?_⟩
  rw [h3, h4]
  split <;> omega
theorem RD_sign {B : Int → Int} {n t : Nat} {μ : zMem} {s : Int} (h : RD B n t μ) (hs : 0 ≤ s) (h1 : ¬ isL s = true) (h2 : ¬ isD s = true) : (μ 321 7 = 3 ∧ μ 322 (μ 321 8) = s) ↔ cT B n t = 100 + s := by
  obtain ⟨⟨a1, a2⟩, a3, a4, a5, a6⟩ := h
  rw [a1, a3, a5]
  unfold cT tC
  by_cases c : ps B n t < n
  · rw [if_pos c, if_pos c]
    by_cases c1 : isL (B (ps B n t)) = true
    · rw [if_pos c1, if_pos c1]
      have := wcode_in (bsL B (ps B n t) (tE B n (ps B n t)))
      omega
    · rw [if_neg c1, if_neg c1]
      by_cases c2 : isD (B (ps B n t)) = true
      · rw [if_pos c2, if_pos c2]
        omega
      · rw [if_neg c2, if_neg c2]
        omega
  · rw [if_neg c, if_neg c]
    omega
theorem kwF_n {x : Nat} {c : Int} (hx : 2 ≤ x ∧ x < 13) (h : c < 1 ∨ 29 < c) : kwF x c = -1 := by
  unfold kwF
  have e : c ≠ [27, 28, 29, 5, 6, 7, 8].getD (x - 4) 0 ∨ x = 2 ∨ x = 3 ∨ x = 11 ∨ x = 12 := by
    rcases (show x = 2 ∨ x = 3 ∨ x = 4 ∨ x = 5 ∨ x = 6 ∨ x = 7 ∨ x = 8 ∨ x = 9 ∨ x = 10 ∨ x = 11 ∨ x = 12 by omega) with rfl | rfl | rfl | rfl | rfl | rfl | rfl | rfl | rfl | rfl | rfl <;> simp <;> omega
  rcases e with e | rfl | rfl | rfl | rfl
  · rw [if_neg e]
    repeat' split
    all_goals omega
  · simp; omega
  · simp; omega
  · simp; omega
  · simp; omega
theorem RD_word {B : Int → Int} {n t : Nat} {μ : zMem} {x : Nat} (hB : okB B n) (h : RD B n t μ) (hx : 2 ≤ x ∧ x < 13) : zit (μ 321 7 = 1) (kwT x (bsL (μ 322) (μ 321 8).toNat (μ 321 9).toNat)) (-1) = kwF x (cT B n t) := by
  obtain ⟨⟨a1, a2⟩, a3, a4, a5, a6⟩ := h
  rw [a1, a3, a4, a5]
  unfold cT tC
  by_cases c : ps B n t < n
  · rw [if_pos c, if_pos c, if_pos c]
    by_cases c1 : isL (B (ps B n t)) = true
    · rw [if_pos c1, if_pos c1, zit_t rfl, Int.toNat_natCast, Int.toNat_natCast, kwT_F hx]
    · rw [if_neg c1, if_neg c1, zit_f (by split <;> omega)]
      by_cases c2 : isD (B (ps B n t)) = true
      · rw [if_pos c2, kwF_n hx (by omega)]
      · rw [if_neg c2]
        have := hB.2 (ps B n t) c
        rw [kwF_n hx (by omega)]
  · rw [if_neg c, if_neg c, zit_f (by omega), kwF_n hx (by omega)]
theorem RD_num {B : Int → Int} {n t : Nat} {μ : zMem} (hB : okB B n) (h : RD B n t μ) : (μ 321 7 = 2 ↔ cT B n t = 50) ∧ (cT B n t = 50 → μ 321 10 = min 1001 (vT B n t)) ∧ (μ 321 7 = 0 ↔ n ≤ ps B n t) := by
  obtain ⟨⟨a1, a2⟩, a3, a4, a5, a6⟩ := h
  rw [a5]
  unfold cT tC vT
  by_cases c : ps B n t < n
  · rw [if_pos c, if_pos c, if_pos c]
    have hb := hB.2 (ps B n t) c
    have hw := wcode_in (bsL B (ps B n t) (tE B n (ps B n t)))
    by_cases c1 : isL (B (ps B n t)) = true
    · rw [if_pos c1, if_pos c1]
      refine ⟨by omega, fun q => by omega, by omega⟩
    · rw [if_neg c1, if_neg c1]
      by_cases c2 : isD (B (ps B n t)) = true
      · rw [if_pos c2, if_pos c2]
        exact ⟨by omega, fun _ => a6 c c2, by omega⟩
      · rw [if_neg c2, if_neg c2]
        refine ⟨by omega, fun q => by omega, by omega⟩
  · rw [if_neg c, if_neg c, if_neg c]
    refine ⟨by omega, fun q => by omega, by omega⟩
theorem m_Re_wordIn : Cond.instanceMethod y_Re_wordIn.1 ∈ zTb ∧ Cond.selects y_Re_wordIn.1.cls y_Re_wordIn.1 y_Re_wordIn.1 ∈ zTb ∧ Cond.initialized y_Re_wordIn.1.cls ∈ zTb ∧ Cond.code y_Re_wordIn.1 y_Re_wordIn.2.1 y_Re_wordIn.2.2.1 y_Re_wordIn.2.2.2 ∈ zTb ∧ (y_Re_wordIn.1.cls ≠ "java/lang/invoke/MethodHandle" ∧ y_Re_wordIn.1.cls ≠ "java/lang/invoke/VarHandle" ∧ (parseMethodDescriptor y_Re_wordIn.1.desc).map (fun d => d.parameters.length) = some 1) ∧ y_Re_wordIn.2.2.1 ≤ 20 :=
  ⟨(zTb_in 758 (by decide +kernel) (by decide +kernel)), (List.mem_filter.mpr ⟨List.mem_append_left _ (by decide +kernel), by decide +kernel⟩), (zTb_in 143 (by decide +kernel) (by decide +kernel)), (zTb_in 759 (by decide +kernel) (by decide +kernel)), by decide +kernel, by decide +kernel⟩
theorem lv_Re_70 : zLv "DebtDoors$Reader" 70 y_Re_wordIn 1 6 := ⟨⟨(zTb_in 756 (by decide +kernel) (by decide +kernel)), m_Re_wordIn.1, m_Re_wordIn.2.1, m_Re_wordIn.2.2⟩, _, rfl, rfl⟩
def y_Re_isWord : zMt := (⟨"DebtDoors$Reader", "isWord", "(Ljava/lang/String;)Z"⟩, prog_8_method_7_code, 2, some .boolean)
theorem d_Re_isWord_0 : decode prog_8_method_7_code 0 = .ok (.aload_n 0, 1) := by decide +kernel
theorem d_Re_isWord_1 : decode prog_8_method_7_code 1 = .ok (.aload_n 1, 1) := by decide +kernel
theorem d_Re_isWord_2 : decode prog_8_method_7_code 2 = .ok (.invokevirtual 70, 3) := by decide +kernel
theorem d_Re_isWord_5 : decode prog_8_method_7_code 5 = .ok (.ifCond .ne 7, 3) := by decide +kernel
theorem d_Re_isWord_8 : decode prog_8_method_7_code 8 = .ok (.iconst 1, 1) := by decide +kernel
theorem d_Re_isWord_9 : decode prog_8_method_7_code 9 = .ok (.goto 4, 3) := by decide +kernel
theorem d_Re_isWord_12 : decode prog_8_method_7_code 12 = .ok (.iconst 0, 1) := by decide +kernel
theorem d_Re_isWord_13 : decode prog_8_method_7_code 13 = .ok (.ireturn, 1) := by decide +kernel
def w_Re_isWord {d : Nat} (hd : 9 ≤ d) := (show SS ("DebtDoors$Reader", prog_8_method_7_code, 2) (some .boolean) d 0 0 0 0 _ from (sRz (xE (rTb (rNot (rJ1 (tgt := 12) k_ne (rV p_Re_wordIn (Nat.le_trans (Nat.le_of_ble_eq_true rfl) hd) lv_Re_70 (rAs (rAr rA0 (rAn 0 d_Re_isWord_0 rfl)) (rXn 1 d_Re_isWord_1 rfl)) (by decide) d_Re_isWord_2) d_Re_isWord_5 (by decide))) (rGoE (p2 := 13) (rI d_Re_isWord_8 rfl) d_Re_isWord_9 (by decide)) (rI d_Re_isWord_12 rfl))) d_Re_isWord_13 rfl))
noncomputable def f_Re_isWord : List zV → zMem → Int
  | [.inr (.inr (.inl q0)), .inr (.inr (.inr X0))], μ => zbp ((if μ 321 7 = 1 then kwT X0 (bsL (μ 322) (μ 321 8).toNat (μ 321 9).toNat) else -1) = 0)
  | _, _ => 0
def g_Re_isWord : List zV → zMem → Prop
  | [.inr (.inr (.inl q0)), .inr (.inr (.inr X0))], μ => q0 = 321 ∧ ((2 ≤ X0 ∧ X0 < 13) ∧ (μ 321 7 = 1 → 0 ≤ μ 321 8 ∧ μ 321 8 ≤ μ 321 9 ∧ μ 321 9 ≤ 400))
  | _, _ => False
theorem p_Re_isWord : zPu y_Re_isWord 9 f_Re_isWord g_Re_isWord := by
  intro as μ h
  unfold g_Re_isWord at h
  split at h
  · next q0 X0 =>
    obtain ⟨rfl, h⟩ := h
    refine zSp.ss [vr 321, vx X0] rfl (w_Re_isWord (Nat.le_refl _)) rfl rfl ?_
    obtain ⟨x, rfl⟩ : ∃ x, X0 = x + 1 := ⟨X0 - 1, by omega⟩
    (try simp only [zit_e, Bool.and_eq_true, Bool.or_eq_true, Bool.not_eq_true', Bool.and_eq_false_iff, Bool.or_eq_false_iff, Bool.not_eq_false', zbe, zdt, zdf, zb2_p, zbp_0, zbp_1, zbp_inj, zbp_01, Bool.true_eq_false, Bool.false_eq_true, true_and, and_true, Decidable.not_not, Classical.not_not, implies_true, List.nil_append, List.cons_append, List.append_assoc, Option.some.injEq, Sum.inl.injEq, zSw_c, zSw_n]); (try simp only [zit_e, Bool.and_eq_true, Bool.or_eq_true, Bool.not_eq_true', Bool.and_eq_false_iff, Bool.or_eq_false_iff, Bool.not_eq_false', zbe, zdt, zdf, zb2_p, zbp_0, zbp_1, zbp_inj, zbp_01, Bool.true_eq_false, Bool.false_eq_true, true_and, and_true, Decidable.not_not, Classical.not_not, implies_true, List.nil_append, List.cons_append, List.append_assoc, Option.some.injEq, Sum.inl.injEq, zSw_c, zSw_n, f_Re_isWord, f_Re_wordIn, g_Re_wordIn, zc_321]); (try simp only [zi_cs, zi_c0, zii_cs, zii_c0, zl_cs, zl_c0, zll_cs, zll_c0, zr_cs, zr_c0, zrr_cs, zrr_c0, zxs_cs, zxs_c0, zxx_cs, zxx_c0, zfree_c0, zfree_c1, zfree_cs, zfree_cz, zlong_i, zlong_r, zlong_x, zset_0, zset_s, true_and, and_true, Option.some.injEq, Sum.inl.injEq, Sum.inr.injEq, zb2_p, zbp_0, zbp_1, zbp_inj, zbp_01, Nat.zero_add, Nat.reduceAdd, implies_true, List.nil_append, List.cons_append, List.append_assoc, Int.not_lt, Int.not_le, Decidable.not_not, Int.zero_add, Int.reduceLE, Int.reduceLT, Int.reduceEq, Int.reduceNe, Int.reduceAdd, Int.reduceSub, Int.reduceMul, Int.reduceNeg, Int.reduceToNat, Nat.reduceMul, Nat.reduceLT, Nat.reduceEqDiff, and_self, ite_true, ite_false, zx1, zx2, zRecv, List.length_cons, List.length_nil, ne_eq, not_true_eq_false, not_false_eq_true, true_or, or_true, or_false, false_or, and_false, false_and, zf01, zf10, reduceCtorEq, zSw_c, zSw_n, zm_r, zit_T, zit_F, false_implies, true_implies, f_Re_isWord, f_Re_wordIn, g_Re_wordIn, zc_321])
    exact ⟨h, (Classical.em _).symm⟩
  · exact h.elim
def y_Re_fail : zMt := (⟨"DebtDoors$Reader", "fail", "()Z"⟩, prog_8_method_4_code, 1, some .boolean)
theorem d_Re_fail_0 : decode prog_8_method_4_code 0 = .ok (.aload_n 0, 1) := by decide +kernel
theorem d_Re_fail_1 : decode prog_8_method_4_code 1 = .ok (.aload_n 0, 1) := by decide +kernel
theorem d_Re_fail_2 : decode prog_8_method_4_code 2 = .ok (.getfield 58, 3) := by decide +kernel
theorem d_Re_fail_5 : decode prog_8_method_4_code 5 = .ok (.putfield 18, 3) := by decide +kernel
theorem d_Re_fail_8 : decode prog_8_method_4_code 8 = .ok (.iconst 0, 1) := by decide +kernel
theorem d_Re_fail_9 : decode prog_8_method_4_code 9 = .ok (.ireturn, 1) := by decide +kernel
def w_Re_fail {d : Nat} (hd : 1 ≤ d) := (show SS ("DebtDoors$Reader", prog_8_method_4_code, 1) (some .boolean) d 0 0 0 0 _ from (sS (p1 := 8) (sP 3 fl_Re_18 fp_6_3 nk_6_3 (rAn 0 d_Re_fail_0 rfl) (xE (rF 8 fl_Re_58 nk_6_8 (rAn 0 d_Re_fail_1 rfl) d_Re_fail_2 rfl)) d_Re_fail_5 rfl) (sRz (xE (rI d_Re_fail_8 rfl)) d_Re_fail_9 rfl)))
theorem fl_Re_29 : zFl "DebtDoors$Reader" 29 6 5 := ⟨_, rfl, by decide, (zTb_in 332 (by decide +kernel) (by decide +kernel)), rfl⟩
theorem nk_6_5 : zNk 6 5 = some 0 := rfl
theorem nk_6_1 : zNk 6 1 = none := rfl
theorem fp_6_5 : zFp 6 5 0 := ⟨_, rfl, rfl, rfl, by decide⟩
def y_Re_write : zMt := (⟨"DebtDoors$Reader", "write", "(II)V"⟩, prog_8_method_11_code, 3, none)
theorem d_Re_write_0 : decode prog_8_method_11_code 0 = .ok (.aload_n 0, 1) := by decide +kernel
theorem d_Re_write_1 : decode prog_8_method_11_code 1 = .ok (.getfield 29, 3) := by decide +kernel
theorem d_Re_write_4 : decode prog_8_method_11_code 4 = .ok (.sipush 385, 3) := by decide +kernel
theorem d_Re_write_7 : decode prog_8_method_11_code 7 = .ok (.if_icmp .ge 28, 3) := by decide +kernel
theorem d_Re_write_10 : decode prog_8_method_11_code 10 = .ok (.aload_n 0, 1) := by decide +kernel
theorem d_Re_write_11 : decode prog_8_method_11_code 11 = .ok (.getfield 15, 3) := by decide +kernel
theorem d_Re_write_14 : decode prog_8_method_11_code 14 = .ok (.aload_n 0, 1) := by decide +kernel
theorem d_Re_write_15 : decode prog_8_method_11_code 15 = .ok (.getfield 29, 3) := by decide +kernel
theorem d_Re_write_18 : decode prog_8_method_11_code 18 = .ok (.iload_n 1, 1) := by decide +kernel
theorem d_Re_write_19 : decode prog_8_method_11_code 19 = .ok (.bipush 12, 2) := by decide +kernel
theorem d_Re_write_21 : decode prog_8_method_11_code 21 = .ok (.ishl, 1) := by decide +kernel
theorem d_Re_write_22 : decode prog_8_method_11_code 22 = .ok (.iload_n 2, 1) := by decide +kernel
theorem d_Re_write_23 : decode prog_8_method_11_code 23 = .ok (.ior, 1) := by decide +kernel
theorem d_Re_write_24 : decode prog_8_method_11_code 24 = .ok (.iastore, 1) := by decide +kernel
theorem d_Re_write_25 : decode prog_8_method_11_code 25 = .ok (.aload_n 0, 1) := by decide +kernel
theorem d_Re_write_26 : decode prog_8_method_11_code 26 = .ok (.dup, 1) := by decide +kernel
theorem d_Re_write_27 : decode prog_8_method_11_code 27 = .ok (.getfield 29, 3) := by decide +kernel
theorem d_Re_write_30 : decode prog_8_method_11_code 30 = .ok (.iconst 1, 1) := by decide +kernel
theorem d_Re_write_31 : decode prog_8_method_11_code 31 = .ok (.iadd, 1) := by decide +kernel
theorem d_Re_write_32 : decode prog_8_method_11_code 32 = .ok (.putfield 29, 3) := by decide +kernel
theorem d_Re_write_35 : decode prog_8_method_11_code 35 = .ok (.return_, 1) := by decide +kernel
def w_Re_write {d : Nat} (hd : 1 ≤ d) := (show SS ("DebtDoors$Reader", prog_8_method_11_code, 3) (none) d 0 0 0 0 _ from (sS (p1 := 35) (sIf (pn := 35) (tt := 10) (xC (rNot (rJ2 (tgt := 35) j_ge (rF 5 fl_Re_29 nk_6_5 (rAn 0 d_Re_write_0 rfl) d_Re_write_1 rfl) (rSi d_Re_write_4 rfl) d_Re_write_7 (by decide)))) (sS (p1 := 25) (sAs (rFr fl_Re_15 nk_6_1 (rAn 0 d_Re_write_10 rfl) d_Re_write_11) (rF 5 fl_Re_29 nk_6_5 (rAn 0 d_Re_write_14 rfl) d_Re_write_15 rfl) (xE (r2 o_or (r2 o_shl (rIn 1 d_Re_write_18 rfl) (rB d_Re_write_19 rfl) d_Re_write_21) (rIn 2 d_Re_write_22 rfl) d_Re_write_23)) d_Re_write_24) (sPo 5 o_add fl_Re_29 fp_6_5 nk_6_5 (rAn 0 d_Re_write_25 rfl) d_Re_write_26 d_Re_write_27 (rI d_Re_write_30 rfl) d_Re_write_31 d_Re_write_32 rfl))) (sRv d_Re_write_35 rfl)))
def y_Re_jumpHere : zMt := (⟨"DebtDoors$Reader", "jumpHere", "(II)V"⟩, prog_8_method_20_code, 3, none)
theorem d_Re_jumpHere_0 : decode prog_8_method_20_code 0 = .ok (.iload_n 1, 1) := by decide +kernel
theorem d_Re_jumpHere_1 : decode prog_8_method_20_code 1 = .ok (.sipush 385, 3) := by decide +kernel
theorem d_Re_jumpHere_4 : decode prog_8_method_20_code 4 = .ok (.if_icmp .ge 18, 3) := by decide +kernel
theorem d_Re_jumpHere_7 : decode prog_8_method_20_code 7 = .ok (.aload_n 0, 1) := by decide +kernel
theorem d_Re_jumpHere_8 : decode prog_8_method_20_code 8 = .ok (.getfield 15, 3) := by decide +kernel
theorem d_Re_jumpHere_11 : decode prog_8_method_20_code 11 = .ok (.iload_n 1, 1) := by decide +kernel
theorem d_Re_jumpHere_12 : decode prog_8_method_20_code 12 = .ok (.iload_n 2, 1) := by decide +kernel
theorem d_Re_jumpHere_13 : decode prog_8_method_20_code 13 = .ok (.bipush 12, 2) := by decide +kernel
theorem d_Re_jumpHere_15 : decode prog_8_method_20_code 15 = .ok (.ishl, 1) := by decide +kernel
theorem d_Re_jumpHere_16 : decode prog_8_method_20_code 16 = .ok (.aload_n 0, 1) := by decide +kernel
theorem d_Re_jumpHere_17 : decode prog_8_method_20_code 17 = .ok (.getfield 29, 3) := by decide +kernel
theorem d_Re_jumpHere_20 : decode prog_8_method_20_code 20 = .ok (.ior, 1) := by decide +kernel
theorem d_Re_jumpHere_21 : decode prog_8_method_20_code 21 = .ok (.iastore, 1) := by decide +kernel
theorem d_Re_jumpHere_22 : decode prog_8_method_20_code 22 = .ok (.return_, 1) := by decide +kernel
def w_Re_jumpHere {d : Nat} (hd : 1 ≤ d) := (show SS ("DebtDoors$Reader", prog_8_method_20_code, 3) (none) d 0 0 0 0 _ from (sS (p1 := 22) (sIf (pn := 22) (tt := 7) (xC (rNot (rJ2 (tgt := 22) j_ge (rIn 1 d_Re_jumpHere_0 rfl) (rSi d_Re_jumpHere_1 rfl) d_Re_jumpHere_4 (by decide)))) (sAs (rFr fl_Re_15 nk_6_1 (rAn 0 d_Re_jumpHere_7 rfl) d_Re_jumpHere_8) (rIn 1 d_Re_jumpHere_11 rfl) (xE (r2 o_or (r2 o_shl (rIn 2 d_Re_jumpHere_12 rfl) (rB d_Re_jumpHere_13 rfl) d_Re_jumpHere_15) (rF 5 fl_Re_29 nk_6_5 (rAn 0 d_Re_jumpHere_16 rfl) d_Re_jumpHere_17 rfl) d_Re_jumpHere_20)) d_Re_jumpHere_21)) (sRv d_Re_jumpHere_22 rfl)))
theorem m_Re_isWord : Cond.instanceMethod y_Re_isWord.1 ∈ zTb ∧ Cond.selects y_Re_isWord.1.cls y_Re_isWord.1 y_Re_isWord.1 ∈ zTb ∧ Cond.initialized y_Re_isWord.1.cls ∈ zTb ∧ Cond.code y_Re_isWord.1 y_Re_isWord.2.1 y_Re_isWord.2.2.1 y_Re_isWord.2.2.2 ∈ zTb ∧ (y_Re_isWord.1.cls ≠ "java/lang/invoke/MethodHandle" ∧ y_Re_isWord.1.cls ≠ "java/lang/invoke/VarHandle" ∧ (parseMethodDescriptor y_Re_isWord.1.desc).map (fun d => d.parameters.length) = some 1) ∧ y_Re_isWord.2.2.1 ≤ 20 :=
  ⟨(zTb_in 863 (by decide +kernel) (by decide +kernel)), (List.mem_filter.mpr ⟨List.mem_append_left _ (by decide +kernel), by decide +kernel⟩), (zTb_in 143 (by decide +kernel) (by decide +kernel)), (zTb_in 864 (by decide +kernel) (by decide +kernel)), by decide +kernel, by decide +kernel⟩
theorem lv_Re_83 : zLv "DebtDoors$Reader" 83 y_Re_isWord 1 6 := ⟨⟨(zTb_in 861 (by decide +kernel) (by decide +kernel)), m_Re_isWord.1, m_Re_isWord.2.1, m_Re_isWord.2.2⟩, _, rfl, rfl⟩
theorem m_Re_fail : Cond.instanceMethod y_Re_fail.1 ∈ zTb ∧ Cond.selects y_Re_fail.1.cls y_Re_fail.1 y_Re_fail.1 ∈ zTb ∧ Cond.initialized y_Re_fail.1.cls ∈ zTb ∧ Cond.code y_Re_fail.1 y_Re_fail.2.1 y_Re_fail.2.2.1 y_Re_fail.2.2.2 ∈ zTb ∧ (y_Re_fail.1.cls ≠ "java/lang/invoke/MethodHandle" ∧ y_Re_fail.1.cls ≠ "java/lang/invoke/VarHandle" ∧ (parseMethodDescriptor y_Re_fail.1.desc).map (fun d => d.parameters.length) = some 0) ∧ y_Re_fail.2.2.1 ≤ 20 :=
  ⟨(zTb_in 810 (by decide +kernel) (by decide +kernel)), (List.mem_filter.mpr ⟨List.mem_append_left _ (by decide +kernel), by decide +kernel⟩), (zTb_in 143 (by decide +kernel) (by decide +kernel)), (zTb_in 811 (by decide +kernel) (by decide +kernel)), by decide +kernel, by decide +kernel⟩
theorem lv_Re_54 : zLv "DebtDoors$Reader" 54 y_Re_fail 0 6 := ⟨⟨(zTb_in 808 (by decide +kernel) (by decide +kernel)), m_Re_fail.1, m_Re_fail.2.1, m_Re_fail.2.2⟩, _, rfl, rfl⟩
theorem m_Re_next : Cond.instanceMethod y_Re_next.1 ∈ zTb ∧ Cond.selects y_Re_next.1.cls y_Re_next.1 y_Re_next.1 ∈ zTb ∧ Cond.initialized y_Re_next.1.cls ∈ zTb ∧ Cond.code y_Re_next.1 y_Re_next.2.1 y_Re_next.2.2.1 y_Re_next.2.2.2 ∈ zTb ∧ (y_Re_next.1.cls ≠ "java/lang/invoke/MethodHandle" ∧ y_Re_next.1.cls ≠ "java/lang/invoke/VarHandle" ∧ (parseMethodDescriptor y_Re_next.1.desc).map (fun d => d.parameters.length) = some 0) ∧ y_Re_next.2.2.1 ≤ 20 :=
  ⟨(zTb_in 748 (by decide +kernel) (by decide +kernel)), (List.mem_filter.mpr ⟨List.mem_append_left _ (by decide +kernel), by decide +kernel⟩), (zTb_in 143 (by decide +kernel) (by decide +kernel)), (zTb_in 749 (by decide +kernel) (by decide +kernel)), by decide +kernel, by decide +kernel⟩
theorem lv_Re_38 : zLv "DebtDoors$Reader" 38 y_Re_next 0 6 := ⟨⟨(zTb_in 746 (by decide +kernel) (by decide +kernel)), m_Re_next.1, m_Re_next.2.1, m_Re_next.2.2⟩, _, rfl, rfl⟩
def y_Re_take : zMt := (⟨"DebtDoors$Reader", "take", "(Ljava/lang/String;)Z"⟩, prog_8_method_9_code, 2, some .boolean)
theorem d_Re_take_0 : decode prog_8_method_9_code 0 = .ok (.aload_n 0, 1) := by decide +kernel
theorem d_Re_take_1 : decode prog_8_method_9_code 1 = .ok (.aload_n 1, 1) := by decide +kernel
theorem d_Re_take_2 : decode prog_8_method_9_code 2 = .ok (.invokevirtual 83, 3) := by decide +kernel
theorem d_Re_take_5 : decode prog_8_method_9_code 5 = .ok (.ifCond .ne 8, 3) := by decide +kernel
theorem d_Re_take_8 : decode prog_8_method_9_code 8 = .ok (.aload_n 0, 1) := by decide +kernel
theorem d_Re_take_9 : decode prog_8_method_9_code 9 = .ok (.invokevirtual 54, 3) := by decide +kernel
theorem d_Re_take_12 : decode prog_8_method_9_code 12 = .ok (.ireturn, 1) := by decide +kernel
theorem d_Re_take_13 : decode prog_8_method_9_code 13 = .ok (.aload_n 0, 1) := by decide +kernel
theorem d_Re_take_14 : decode prog_8_method_9_code 14 = .ok (.invokevirtual 38, 3) := by decide +kernel
theorem d_Re_take_17 : decode prog_8_method_9_code 17 = .ok (.iconst 1, 1) := by decide +kernel
theorem d_Re_take_18 : decode prog_8_method_9_code 18 = .ok (.ireturn, 1) := by decide +kernel
def w_Re_take {d : Nat} (hd : 10 ≤ d) := (show SS ("DebtDoors$Reader", prog_8_method_9_code, 2) (some .boolean) d 0 0 0 0 _ from (sS (p1 := 13) (sIf (pn := 13) (tt := 8) (xC (rNot (rJ1 (tgt := 13) k_ne (rV p_Re_isWord (Nat.le_trans (Nat.le_of_ble_eq_true rfl) hd) lv_Re_83 (rAs (rAr rA0 (rAn 0 d_Re_take_0 rfl)) (rXn 1 d_Re_take_1 rfl)) (by decide) d_Re_take_2) d_Re_take_5 (by decide)))) (sRz (xV lv_Re_54 (xA (rAr rA0 (rAn 0 d_Re_take_8 rfl))) (by decide) d_Re_take_9) d_Re_take_12 rfl)) (sS (p1 := 17) (sV (xVv lv_Re_38 (xA (rAr rA0 (rAn 0 d_Re_take_13 rfl))) (by decide) d_Re_take_14)) (sRz (xE (rI d_Re_take_17 rfl)) d_Re_take_18 rfl))))
theorem m_Re_isSign : Cond.instanceMethod y_Re_isSign.1 ∈ zTb ∧ Cond.selects y_Re_isSign.1.cls y_Re_isSign.1 y_Re_isSign.1 ∈ zTb ∧ Cond.initialized y_Re_isSign.1.cls ∈ zTb ∧ Cond.code y_Re_isSign.1 y_Re_isSign.2.1 y_Re_isSign.2.2.1 y_Re_isSign.2.2.2 ∈ zTb ∧ (y_Re_isSign.1.cls ≠ "java/lang/invoke/MethodHandle" ∧ y_Re_isSign.1.cls ≠ "java/lang/invoke/VarHandle" ∧ (parseMethodDescriptor y_Re_isSign.1.desc).map (fun d => d.parameters.length) = some 1) ∧ y_Re_isSign.2.2.1 ≤ 20 :=
  ⟨(zTb_in 836 (by decide +kernel) (by decide +kernel)), (List.mem_filter.mpr ⟨List.mem_append_left _ (by decide +kernel), by decide +kernel⟩), (zTb_in 143 (by decide +kernel) (by decide +kernel)), (zTb_in 837 (by decide +kernel) (by decide +kernel)), by decide +kernel, by decide +kernel⟩
theorem lv_Re_48 : zLv "DebtDoors$Reader" 48 y_Re_isSign 1 6 := ⟨⟨(zTb_in 834 (by decide +kernel) (by decide +kernel)), m_Re_isSign.1, m_Re_isSign.2.1, m_Re_isSign.2.2⟩, _, rfl, rfl⟩
def y_Re_takeSign : zMt := (⟨"DebtDoors$Reader", "takeSign", "(I)Z"⟩, prog_8_method_10_code, 2, some .boolean)
theorem d_Re_takeSign_0 : decode prog_8_method_10_code 0 = .ok (.aload_n 0, 1) := by decide +kernel
theorem d_Re_takeSign_1 : decode prog_8_method_10_code 1 = .ok (.iload_n 1, 1) := by decide +kernel
theorem d_Re_takeSign_2 : decode prog_8_method_10_code 2 = .ok (.invokevirtual 48, 3) := by decide +kernel
theorem d_Re_takeSign_5 : decode prog_8_method_10_code 5 = .ok (.ifCond .ne 8, 3) := by decide +kernel
theorem d_Re_takeSign_8 : decode prog_8_method_10_code 8 = .ok (.aload_n 0, 1) := by decide +kernel
theorem d_Re_takeSign_9 : decode prog_8_method_10_code 9 = .ok (.invokevirtual 54, 3) := by decide +kernel
theorem d_Re_takeSign_12 : decode prog_8_method_10_code 12 = .ok (.ireturn, 1) := by decide +kernel
theorem d_Re_takeSign_13 : decode prog_8_method_10_code 13 = .ok (.aload_n 0, 1) := by decide +kernel
theorem d_Re_takeSign_14 : decode prog_8_method_10_code 14 = .ok (.invokevirtual 38, 3) := by decide +kernel
theorem d_Re_takeSign_17 : decode prog_8_method_10_code 17 = .ok (.iconst 1, 1) := by decide +kernel
theorem d_Re_takeSign_18 : decode prog_8_method_10_code 18 = .ok (.ireturn, 1) := by decide +kernel
def w_Re_takeSign {d : Nat} (hd : 2 ≤ d) := (show SS ("DebtDoors$Reader", prog_8_method_10_code, 2) (some .boolean) d 0 0 0 0 _ from (sS (p1 := 13) (sIf (pn := 13) (tt := 8) (xC (rNot (rJ1 (tgt := 13) k_ne (rV p_Re_isSign (Nat.le_trans (Nat.le_of_ble_eq_true rfl) hd) lv_Re_48 (rAi (rAr rA0 (rAn 0 d_Re_takeSign_0 rfl)) (rIn 1 d_Re_takeSign_1 rfl)) (by decide) d_Re_takeSign_2) d_Re_takeSign_5 (by decide)))) (sRz (xV lv_Re_54 (xA (rAr rA0 (rAn 0 d_Re_takeSign_8 rfl))) (by decide) d_Re_takeSign_9) d_Re_takeSign_12 rfl)) (sS (p1 := 17) (sV (xVv lv_Re_38 (xA (rAr rA0 (rAn 0 d_Re_takeSign_13 rfl))) (by decide) d_Re_takeSign_14)) (sRz (xE (rI d_Re_takeSign_17 rfl)) d_Re_takeSign_18 rfl))))
theorem m_D_columnPlace : Cond.static y_D_columnPlace.1 ∈ zTb ∧ Cond.initialized y_D_columnPlace.1.cls ∈ zTb ∧ Cond.code y_D_columnPlace.1 y_D_columnPlace.2.1 y_D_columnPlace.2.2.1 y_D_columnPlace.2.2.2 ∈ zTb ∧ (y_D_columnPlace.1.cls ≠ "java/lang/invoke/MethodHandle" ∧ y_D_columnPlace.1.cls ≠ "java/lang/invoke/VarHandle" ∧ (parseMethodDescriptor y_D_columnPlace.1.desc).map (fun d => d.parameters.length) = some 2) ∧ y_D_columnPlace.2.2.1 ≤ 20 :=
  ⟨(zTb_in 673 (by decide +kernel) (by decide +kernel)), (zTb_in 139 (by decide +kernel) (by decide +kernel)), (zTb_in 674 (by decide +kernel) (by decide +kernel)), by decide +kernel, by decide +kernel⟩
theorem ls_Re_87 : zLs "DebtDoors$Reader" 87 y_D_columnPlace 2 := Or.inr ⟨⟨"DebtDoors", List.mem_of_getElem? (i := 816) (by decide +kernel)⟩, m_D_columnPlace⟩
theorem ls_Re_90 : zLs "DebtDoors$Reader" 90 y_D_between 3 := Or.inr ⟨⟨"DebtDoors", List.mem_of_getElem? (i := 817) (by decide +kernel)⟩, m_D_between⟩
def y_Re_mark : zMt := (⟨"DebtDoors$Reader", "mark", "(III)V"⟩, prog_8_method_12_code, 5, none)
theorem d_Re_mark_0 : decode prog_8_method_12_code 0 = .ok (.iload_n 1, 1) := by decide +kernel
theorem d_Re_mark_1 : decode prog_8_method_12_code 1 = .ok (.iload_n 2, 1) := by decide +kernel
theorem d_Re_mark_2 : decode prog_8_method_12_code 2 = .ok (.invokestatic 87, 3) := by decide +kernel
theorem d_Re_mark_5 : decode prog_8_method_12_code 5 = .ok (.istore 4, 2) := by decide +kernel
theorem d_Re_mark_7 : decode prog_8_method_12_code 7 = .ok (.iload 4, 2) := by decide +kernel
theorem d_Re_mark_9 : decode prog_8_method_12_code 9 = .ok (.iconst 0, 1) := by decide +kernel
theorem d_Re_mark_10 : decode prog_8_method_12_code 10 = .ok (.sipush 384, 3) := by decide +kernel
theorem d_Re_mark_13 : decode prog_8_method_12_code 13 = .ok (.invokestatic 90, 3) := by decide +kernel
theorem d_Re_mark_16 : decode prog_8_method_12_code 16 = .ok (.ifCond .eq 11, 3) := by decide +kernel
theorem d_Re_mark_19 : decode prog_8_method_12_code 19 = .ok (.aload_n 0, 1) := by decide +kernel
theorem d_Re_mark_20 : decode prog_8_method_12_code 20 = .ok (.getfield 15, 3) := by decide +kernel
theorem d_Re_mark_23 : decode prog_8_method_12_code 23 = .ok (.iload 4, 2) := by decide +kernel
theorem d_Re_mark_25 : decode prog_8_method_12_code 25 = .ok (.iload_n 3, 1) := by decide +kernel
theorem d_Re_mark_26 : decode prog_8_method_12_code 26 = .ok (.iastore, 1) := by decide +kernel
theorem d_Re_mark_27 : decode prog_8_method_12_code 27 = .ok (.return_, 1) := by decide +kernel
def w_Re_mark {d : Nat} (hd : 2 ≤ d) := (show SS ("DebtDoors$Reader", prog_8_method_12_code, 5) (none) d 0 0 0 0 _ from (sS (p1 := 7) (sI (xE (rS p_D_columnPlace (Nat.le_trans (Nat.le_of_ble_eq_true rfl) hd) ls_Re_87 (rAi (rAi rA0 (rIn 1 d_Re_mark_0 rfl)) (rIn 2 d_Re_mark_1 rfl)) (by decide) d_Re_mark_2)) d_Re_mark_5 (by decide)) (sS (p1 := 27) (sIf (pn := 27) (tt := 19) (xC (rNot (rJ1 (tgt := 27) k_eq (rS p_D_between (Nat.le_trans (Nat.le_of_ble_eq_true rfl) hd) ls_Re_90 (rAi (rAi (rAi rA0 (rIl d_Re_mark_7)) (rI d_Re_mark_9 rfl)) (rSi d_Re_mark_10 rfl)) (by decide) d_Re_mark_13) d_Re_mark_16 (by decide)))) (sAs (rFr fl_Re_15 nk_6_1 (rAn 0 d_Re_mark_19 rfl) d_Re_mark_20) (rIl d_Re_mark_23) (xE (rIn 3 d_Re_mark_25 rfl)) d_Re_mark_26)) (sRv d_Re_mark_27 rfl))))
theorem m_Re_write : Cond.instanceMethod y_Re_write.1 ∈ zTb ∧ Cond.selects y_Re_write.1.cls y_Re_write.1 y_Re_write.1 ∈ zTb ∧ Cond.initialized y_Re_write.1.cls ∈ zTb ∧ Cond.code y_Re_write.1 y_Re_write.2.1 y_Re_write.2.2.1 y_Re_write.2.2.2 ∈ zTb ∧ (y_Re_write.1.cls ≠ "java/lang/invoke/MethodHandle" ∧ y_Re_write.1.cls ≠ "java/lang/invoke/VarHandle" ∧ (parseMethodDescriptor y_Re_write.1.desc).map (fun d => d.parameters.length) = some 2) ∧ y_Re_write.2.2.1 ≤ 20 :=
  ⟨(zTb_in 844 (by decide +kernel) (by decide +kernel)), (List.mem_filter.mpr ⟨List.mem_append_left _ (by decide +kernel), by decide +kernel⟩), (zTb_in 143 (by decide +kernel) (by decide +kernel)), (zTb_in 845 (by decide +kernel) (by decide +kernel)), by decide +kernel, by decide +kernel⟩
theorem lv_Re_132 : zLv "DebtDoors$Reader" 132 y_Re_write 2 6 := ⟨⟨(zTb_in 842 (by decide +kernel) (by decide +kernel)), m_Re_write.1, m_Re_write.2.1, m_Re_write.2.2⟩, _, rfl, rfl⟩
def y_Re_lawWord : zMt := (⟨"DebtDoors$Reader", "lawWord", "()Z"⟩, prog_8_method_25_code, 2, some .boolean)
theorem d_Re_lawWord_0 : decode prog_8_method_25_code 0 = .ok (.aload_n 0, 1) := by decide +kernel
theorem d_Re_lawWord_1 : decode prog_8_method_25_code 1 = .ok (.ldc 161, 2) := by decide +kernel
theorem d_Re_lawWord_3 : decode prog_8_method_25_code 3 = .ok (.invokevirtual 70, 3) := by decide +kernel
theorem d_Re_lawWord_6 : decode prog_8_method_25_code 6 = .ok (.istore_n 1, 1) := by decide +kernel
theorem d_Re_lawWord_7 : decode prog_8_method_25_code 7 = .ok (.iload_n 1, 1) := by decide +kernel
theorem d_Re_lawWord_8 : decode prog_8_method_25_code 8 = .ok (.iconst (-1), 1) := by decide +kernel
theorem d_Re_lawWord_9 : decode prog_8_method_25_code 9 = .ok (.if_icmp .ne 8, 3) := by decide +kernel
theorem d_Re_lawWord_12 : decode prog_8_method_25_code 12 = .ok (.aload_n 0, 1) := by decide +kernel
theorem d_Re_lawWord_13 : decode prog_8_method_25_code 13 = .ok (.invokevirtual 54, 3) := by decide +kernel
theorem d_Re_lawWord_16 : decode prog_8_method_25_code 16 = .ok (.ireturn, 1) := by decide +kernel
theorem d_Re_lawWord_17 : decode prog_8_method_25_code 17 = .ok (.aload_n 0, 1) := by decide +kernel
theorem d_Re_lawWord_18 : decode prog_8_method_25_code 18 = .ok (.iconst 2, 1) := by decide +kernel
theorem d_Re_lawWord_19 : decode prog_8_method_25_code 19 = .ok (.iload_n 1, 1) := by decide +kernel
theorem d_Re_lawWord_20 : decode prog_8_method_25_code 20 = .ok (.invokevirtual 132, 3) := by decide +kernel
theorem d_Re_lawWord_23 : decode prog_8_method_25_code 23 = .ok (.aload_n 0, 1) := by decide +kernel
theorem d_Re_lawWord_24 : decode prog_8_method_25_code 24 = .ok (.invokevirtual 38, 3) := by decide +kernel
theorem d_Re_lawWord_27 : decode prog_8_method_25_code 27 = .ok (.iconst 1, 1) := by decide +kernel
theorem d_Re_lawWord_28 : decode prog_8_method_25_code 28 = .ok (.ireturn, 1) := by decide +kernel
def w_Re_lawWord {d : Nat} (hd : 9 ≤ d) := (show SS ("DebtDoors$Reader", prog_8_method_25_code, 2) (some .boolean) d 0 0 0 0 _ from (sS (p1 := 7) (sIn 1 (xE (rV p_Re_wordIn (Nat.le_trans (Nat.le_of_ble_eq_true rfl) hd) lv_Re_70 (rAs (rAr rA0 (rAn 0 d_Re_lawWord_0 rfl)) (rTx (i := 9) (by decide) rfl rfl d_Re_lawWord_1)) (by decide) d_Re_lawWord_3)) d_Re_lawWord_6 rfl (by decide)) (sS (p1 := 17) (sIf (pn := 17) (tt := 12) (xC (rNot (rJ2 (tgt := 17) j_ne (rIn 1 d_Re_lawWord_7 rfl) (rI d_Re_lawWord_8 rfl) d_Re_lawWord_9 (by decide)))) (sRz (xV lv_Re_54 (xA (rAr rA0 (rAn 0 d_Re_lawWord_12 rfl))) (by decide) d_Re_lawWord_13) d_Re_lawWord_16 rfl)) (sS (p1 := 23) (sV (xVv lv_Re_132 (xA (rAi (rAi (rAr rA0 (rAn 0 d_Re_lawWord_17 rfl)) (rI d_Re_lawWord_18 rfl)) (rIn 1 d_Re_lawWord_19 rfl))) (by decide) d_Re_lawWord_20)) (sS (p1 := 27) (sV (xVv lv_Re_38 (xA (rAr rA0 (rAn 0 d_Re_lawWord_23 rfl))) (by decide) d_Re_lawWord_24)) (sRz (xE (rI d_Re_lawWord_27 rfl)) d_Re_lawWord_28 rfl))))))
def y_Re_orderWord : zMt := (⟨"DebtDoors$Reader", "orderWord", "()Z"⟩, prog_8_method_26_code, 5, some .boolean)
theorem d_Re_orderWord_0 : decode prog_8_method_26_code 0 = .ok (.aload_n 0, 1) := by decide +kernel
theorem d_Re_orderWord_1 : decode prog_8_method_26_code 1 = .ok (.ldc 163, 2) := by decide +kernel
theorem d_Re_orderWord_3 : decode prog_8_method_26_code 3 = .ok (.invokevirtual 70, 3) := by decide +kernel
theorem d_Re_orderWord_6 : decode prog_8_method_26_code 6 = .ok (.istore_n 1, 1) := by decide +kernel
theorem d_Re_orderWord_7 : decode prog_8_method_26_code 7 = .ok (.iload_n 1, 1) := by decide +kernel
theorem d_Re_orderWord_8 : decode prog_8_method_26_code 8 = .ok (.iconst (-1), 1) := by decide +kernel
theorem d_Re_orderWord_9 : decode prog_8_method_26_code 9 = .ok (.if_icmp .ne 8, 3) := by decide +kernel
theorem d_Re_orderWord_12 : decode prog_8_method_26_code 12 = .ok (.aload_n 0, 1) := by decide +kernel
theorem d_Re_orderWord_13 : decode prog_8_method_26_code 13 = .ok (.invokevirtual 54, 3) := by decide +kernel
theorem d_Re_orderWord_16 : decode prog_8_method_26_code 16 = .ok (.ireturn, 1) := by decide +kernel
theorem d_Re_orderWord_17 : decode prog_8_method_26_code 17 = .ok (.aload_n 0, 1) := by decide +kernel
theorem d_Re_orderWord_18 : decode prog_8_method_26_code 18 = .ok (.invokevirtual 38, 3) := by decide +kernel
theorem d_Re_orderWord_21 : decode prog_8_method_26_code 21 = .ok (.iload_n 1, 1) := by decide +kernel
theorem d_Re_orderWord_22 : decode prog_8_method_26_code 22 = .ok (.iconst 4, 1) := by decide +kernel
theorem d_Re_orderWord_23 : decode prog_8_method_26_code 23 = .ok (.if_icmp .ge 11, 3) := by decide +kernel
theorem d_Re_orderWord_26 : decode prog_8_method_26_code 26 = .ok (.aload_n 0, 1) := by decide +kernel
theorem d_Re_orderWord_27 : decode prog_8_method_26_code 27 = .ok (.iconst 2, 1) := by decide +kernel
theorem d_Re_orderWord_28 : decode prog_8_method_26_code 28 = .ok (.iload_n 1, 1) := by decide +kernel
theorem d_Re_orderWord_29 : decode prog_8_method_26_code 29 = .ok (.invokevirtual 132, 3) := by decide +kernel
theorem d_Re_orderWord_32 : decode prog_8_method_26_code 32 = .ok (.iconst 1, 1) := by decide +kernel
theorem d_Re_orderWord_33 : decode prog_8_method_26_code 33 = .ok (.ireturn, 1) := by decide +kernel
theorem d_Re_orderWord_34 : decode prog_8_method_26_code 34 = .ok (.iload_n 1, 1) := by decide +kernel
theorem d_Re_orderWord_35 : decode prog_8_method_26_code 35 = .ok (.iconst 4, 1) := by decide +kernel
theorem d_Re_orderWord_36 : decode prog_8_method_26_code 36 = .ok (.if_icmp .ne 7, 3) := by decide +kernel
theorem d_Re_orderWord_39 : decode prog_8_method_26_code 39 = .ok (.iconst 1, 1) := by decide +kernel
theorem d_Re_orderWord_40 : decode prog_8_method_26_code 40 = .ok (.goto 4, 3) := by decide +kernel
theorem d_Re_orderWord_43 : decode prog_8_method_26_code 43 = .ok (.iconst 2, 1) := by decide +kernel
theorem d_Re_orderWord_44 : decode prog_8_method_26_code 44 = .ok (.istore_n 2, 1) := by decide +kernel
theorem d_Re_orderWord_45 : decode prog_8_method_26_code 45 = .ok (.iconst 0, 1) := by decide +kernel
theorem d_Re_orderWord_46 : decode prog_8_method_26_code 46 = .ok (.istore_n 3, 1) := by decide +kernel
theorem d_Re_orderWord_47 : decode prog_8_method_26_code 47 = .ok (.iconst 0, 1) := by decide +kernel
theorem d_Re_orderWord_48 : decode prog_8_method_26_code 48 = .ok (.istore 4, 2) := by decide +kernel
theorem d_Re_orderWord_50 : decode prog_8_method_26_code 50 = .ok (.iload 4, 2) := by decide +kernel
theorem d_Re_orderWord_52 : decode prog_8_method_26_code 52 = .ok (.iload_n 2, 1) := by decide +kernel
theorem d_Re_orderWord_53 : decode prog_8_method_26_code 53 = .ok (.if_icmp .ge 45, 3) := by decide +kernel
theorem d_Re_orderWord_56 : decode prog_8_method_26_code 56 = .ok (.aload_n 0, 1) := by decide +kernel
theorem d_Re_orderWord_57 : decode prog_8_method_26_code 57 = .ok (.getfield 51, 3) := by decide +kernel
theorem d_Re_orderWord_60 : decode prog_8_method_26_code 60 = .ok (.iconst 2, 1) := by decide +kernel
theorem d_Re_orderWord_61 : decode prog_8_method_26_code 61 = .ok (.if_icmp .ne 12, 3) := by decide +kernel
theorem d_Re_orderWord_64 : decode prog_8_method_26_code 64 = .ok (.aload_n 0, 1) := by decide +kernel
theorem d_Re_orderWord_65 : decode prog_8_method_26_code 65 = .ok (.getfield 61, 3) := by decide +kernel
theorem d_Re_orderWord_68 : decode prog_8_method_26_code 68 = .ok (.bipush 7, 2) := by decide +kernel
theorem d_Re_orderWord_70 : decode prog_8_method_26_code 70 = .ok (.if_icmp .lt 8, 3) := by decide +kernel
theorem d_Re_orderWord_73 : decode prog_8_method_26_code 73 = .ok (.aload_n 0, 1) := by decide +kernel
theorem d_Re_orderWord_74 : decode prog_8_method_26_code 74 = .ok (.invokevirtual 54, 3) := by decide +kernel
theorem d_Re_orderWord_77 : decode prog_8_method_26_code 77 = .ok (.ireturn, 1) := by decide +kernel
theorem d_Re_orderWord_78 : decode prog_8_method_26_code 78 = .ok (.iload_n 3, 1) := by decide +kernel
theorem d_Re_orderWord_79 : decode prog_8_method_26_code 79 = .ok (.bipush 7, 2) := by decide +kernel
theorem d_Re_orderWord_81 : decode prog_8_method_26_code 81 = .ok (.imul, 1) := by decide +kernel
theorem d_Re_orderWord_82 : decode prog_8_method_26_code 82 = .ok (.aload_n 0, 1) := by decide +kernel
theorem d_Re_orderWord_83 : decode prog_8_method_26_code 83 = .ok (.getfield 61, 3) := by decide +kernel
theorem d_Re_orderWord_86 : decode prog_8_method_26_code 86 = .ok (.iadd, 1) := by decide +kernel
theorem d_Re_orderWord_87 : decode prog_8_method_26_code 87 = .ok (.istore_n 3, 1) := by decide +kernel
theorem d_Re_orderWord_88 : decode prog_8_method_26_code 88 = .ok (.aload_n 0, 1) := by decide +kernel
theorem d_Re_orderWord_89 : decode prog_8_method_26_code 89 = .ok (.invokevirtual 38, 3) := by decide +kernel
theorem d_Re_orderWord_92 : decode prog_8_method_26_code 92 = .ok (.iinc 4 1, 3) := by decide +kernel
theorem d_Re_orderWord_95 : decode prog_8_method_26_code 95 = .ok (.goto (-45), 3) := by decide +kernel
theorem d_Re_orderWord_98 : decode prog_8_method_26_code 98 = .ok (.aload_n 0, 1) := by decide +kernel
theorem d_Re_orderWord_99 : decode prog_8_method_26_code 99 = .ok (.iconst 2, 1) := by decide +kernel
theorem d_Re_orderWord_100 : decode prog_8_method_26_code 100 = .ok (.iload_n 1, 1) := by decide +kernel
theorem d_Re_orderWord_101 : decode prog_8_method_26_code 101 = .ok (.iconst 4, 1) := by decide +kernel
theorem d_Re_orderWord_102 : decode prog_8_method_26_code 102 = .ok (.if_icmp .ne 7, 3) := by decide +kernel
theorem d_Re_orderWord_105 : decode prog_8_method_26_code 105 = .ok (.iconst 4, 1) := by decide +kernel
theorem d_Re_orderWord_106 : decode prog_8_method_26_code 106 = .ok (.goto 5, 3) := by decide +kernel
theorem d_Re_orderWord_109 : decode prog_8_method_26_code 109 = .ok (.bipush 11, 2) := by decide +kernel
theorem d_Re_orderWord_111 : decode prog_8_method_26_code 111 = .ok (.iload_n 3, 1) := by decide +kernel
theorem d_Re_orderWord_112 : decode prog_8_method_26_code 112 = .ok (.iadd, 1) := by decide +kernel
theorem d_Re_orderWord_113 : decode prog_8_method_26_code 113 = .ok (.invokevirtual 132, 3) := by decide +kernel
theorem d_Re_orderWord_116 : decode prog_8_method_26_code 116 = .ok (.iconst 1, 1) := by decide +kernel
theorem d_Re_orderWord_117 : decode prog_8_method_26_code 117 = .ok (.ireturn, 1) := by decide +kernel
def w_Re_orderWord {d : Nat} (hd : 9 ≤ d) := (show SS ("DebtDoors$Reader", prog_8_method_26_code, 5) (some .boolean) d 0 0 0 0 _ from (sS (p1 := 7) (sIn 1 (xE (rV p_Re_wordIn (Nat.le_trans (Nat.le_of_ble_eq_true rfl) hd) lv_Re_70 (rAs (rAr rA0 (rAn 0 d_Re_orderWord_0 rfl)) (rTx (i := 10) (by decide) rfl rfl d_Re_orderWord_1)) (by decide) d_Re_orderWord_3)) d_Re_orderWord_6 rfl (by decide)) (sS (p1 := 17) (sIf (pn := 17) (tt := 12) (xC (rNot (rJ2 (tgt := 17) j_ne (rIn 1 d_Re_orderWord_7 rfl) (rI d_Re_orderWord_8 rfl) d_Re_orderWord_9 (by decide)))) (sRz (xV lv_Re_54 (xA (rAr rA0 (rAn 0 d_Re_orderWord_12 rfl))) (by decide) d_Re_orderWord_13) d_Re_orderWord_16 rfl)) (sS (p1 := 21) (sV (xVv lv_Re_38 (xA (rAr rA0 (rAn 0 d_Re_orderWord_17 rfl))) (by decide) d_Re_orderWord_18)) (sS (p1 := 34) (sIf (pn := 34) (tt := 26) (xC (rNot (rJ2 (tgt := 34) j_ge (rIn 1 d_Re_orderWord_21 rfl) (rI d_Re_orderWord_22 rfl) d_Re_orderWord_23 (by decide)))) (sS (p1 := 32) (sV (xVv lv_Re_132 (xA (rAi (rAi (rAr rA0 (rAn 0 d_Re_orderWord_26 rfl)) (rI d_Re_orderWord_27 rfl)) (rIn 1 d_Re_orderWord_28 rfl))) (by decide) d_Re_orderWord_29)) (sRz (xE (rI d_Re_orderWord_32 rfl)) d_Re_orderWord_33 rfl))) (sS (p1 := 45) (sIn 2 (xE (rT2 (rNot (rJ2 (tgt := 43) j_ne (rIn 1 d_Re_orderWord_34 rfl) (rI d_Re_orderWord_35 rfl) d_Re_orderWord_36 (by decide))) (rGoE (p2 := 44) (rI d_Re_orderWord_39 rfl) d_Re_orderWord_40 (by decide)) (rI d_Re_orderWord_43 rfl))) d_Re_orderWord_44 rfl (by decide)) (sS (p1 := 47) (sIn 3 (xE (rI d_Re_orderWord_45 rfl)) d_Re_orderWord_46 rfl (by decide)) (sS (p1 := 98) (sS (p1 := 50) (sI (xE (rI d_Re_orderWord_47 rfl)) d_Re_orderWord_48 (by decide)) (sLp (ps := 92) (tt := 56) (pn := 98) (p1 := 0) (p2 := 0) (xC (rNot (rJ2 (tgt := 98) j_ge (rIl d_Re_orderWord_50) (rIn 2 d_Re_orderWord_52 rfl) d_Re_orderWord_53 (by decide)))) (sS (p1 := 78) (sIf (pn := 78) (tt := 73) (xC (rOr (mm := 64) (rJ2 (tgt := 73) j_ne (rF 7 fl_Re_51 nk_6_7 (rAn 0 d_Re_orderWord_56 rfl) d_Re_orderWord_57 rfl) (rI d_Re_orderWord_60 rfl) d_Re_orderWord_61 (by decide)) (rNot (rJ2 (tgt := 78) j_lt (rF 10 fl_Re_61 nk_6_10 (rAn 0 d_Re_orderWord_64 rfl) d_Re_orderWord_65 rfl) (rB d_Re_orderWord_68 rfl) d_Re_orderWord_70 (by decide))))) (sRz (xV lv_Re_54 (xA (rAr rA0 (rAn 0 d_Re_orderWord_73 rfl))) (by decide) d_Re_orderWord_74) d_Re_orderWord_77 rfl)) (sS (p1 := 88) (sIn 3 (xE (r2 o_add (r2 o_mul (rIn 3 d_Re_orderWord_78 rfl) (rB d_Re_orderWord_79 rfl) d_Re_orderWord_81) (rF 10 fl_Re_61 nk_6_10 (rAn 0 d_Re_orderWord_82 rfl) d_Re_orderWord_83 rfl) d_Re_orderWord_86)) d_Re_orderWord_87 rfl (by decide)) (sV (xVv lv_Re_38 (xA (rAr rA0 (rAn 0 d_Re_orderWord_88 rfl))) (by decide) d_Re_orderWord_89)))) (sGo (pn := 50) (sInc d_Re_orderWord_92 (by decide)) d_Re_orderWord_95 (by decide)))) (sS (p1 := 116) (sV (xVv lv_Re_132 (xA (rAi (rAi (rAr rA0 (rAn 0 d_Re_orderWord_98 rfl)) (rI d_Re_orderWord_99 rfl)) (r2 o_add (rT2 (rNot (rJ2 (tgt := 109) j_ne (rIn 1 d_Re_orderWord_100 rfl) (rI d_Re_orderWord_101 rfl) d_Re_orderWord_102 (by decide))) (rGoE (p2 := 111) (rI d_Re_orderWord_105 rfl) d_Re_orderWord_106 (by decide)) (rB d_Re_orderWord_109 rfl)) (rIn 3 d_Re_orderWord_111 rfl) d_Re_orderWord_112))) (by decide) d_Re_orderWord_113)) (sRz (xE (rI d_Re_orderWord_116 rfl)) d_Re_orderWord_117 rfl))))))))))
theorem q_Re_fail {d : Nat} (hd : 1 ≤ d) {μ : zMem} : zSp d 0 0 y_Re_fail zT0 [vr 321] μ zT0 (fun r μ' => r = some (vi 0) ∧ μ' = zm μ 321 3 (μ 321 8)) := by
  refine zSp.ss [vr 321] rfl (w_Re_fail hd) rfl rfl ?_
  (try simp only [zit_e, Bool.and_eq_true, Bool.or_eq_true, Bool.not_eq_true', Bool.and_eq_false_iff, Bool.or_eq_false_iff, Bool.not_eq_false', zbe, zdt, zdf, zb2_p, zbp_0, zbp_1, zbp_inj, zbp_01, Bool.true_eq_false, Bool.false_eq_true, true_and, and_true, Decidable.not_not, Classical.not_not, implies_true, List.nil_append, List.cons_append, List.append_assoc, Option.some.injEq, Sum.inl.injEq, zSw_c, zSw_n]); (try simp only [zit_e, Bool.and_eq_true, Bool.or_eq_true, Bool.not_eq_true', Bool.and_eq_false_iff, Bool.or_eq_false_iff, Bool.not_eq_false', zbe, zdt, zdf, zb2_p, zbp_0, zbp_1, zbp_inj, zbp_01, Bool.true_eq_false, Bool.false_eq_true, true_and, and_true, Decidable.not_not, Classical.not_not, implies_true, List.nil_append, List.cons_append, List.append_assoc, Option.some.injEq, Sum.inl.injEq, zSw_c, zSw_n, zc_321]); (try simp only [zi_cs, zi_c0, zii_cs, zii_c0, zl_cs, zl_c0, zll_cs, zll_c0, zr_cs, zr_c0, zrr_cs, zrr_c0, zxs_cs, zxs_c0, zxx_cs, zxx_c0, zfree_c0, zfree_c1, zfree_cs, zfree_cz, zlong_i, zlong_r, zlong_x, zset_0, zset_s, true_and, and_true, Option.some.injEq, Sum.inl.injEq, Sum.inr.injEq, zb2_p, zbp_0, zbp_1, zbp_inj, zbp_01, Nat.zero_add, Nat.reduceAdd, implies_true, List.nil_append, List.cons_append, List.append_assoc, Int.not_lt, Int.not_le, Decidable.not_not, Int.zero_add, Int.reduceLE, Int.reduceLT, Int.reduceEq, Int.reduceNe, Int.reduceAdd, Int.reduceSub, Int.reduceMul, Int.reduceNeg, Int.reduceToNat, Nat.reduceMul, Nat.reduceLT, Nat.reduceEqDiff, and_self, ite_true, ite_false, zx1, zx2, zRecv, List.length_cons, List.length_nil, ne_eq, not_true_eq_false, not_false_eq_true, true_or, or_true, or_false, false_or, and_false, false_and, zf01, zf10, reduceCtorEq, zSw_c, zSw_n, zm_r, zit_T, zit_F, false_implies, true_implies, zc_321])
theorem zshl12_all : (List.range 14).all (fun k => zshl (k : Int) 12 == ((k * 4096 : Nat) : Int)) = true := by decide +kernel
theorem zop_mk {o a : Int} (ho : 0 ≤ o ∧ o < 14) (ha : 0 ≤ a ∧ a < 4096) : zor (zshl o 12) a = o * 4096 + a := by
  obtain ⟨k, rfl⟩ := Int.eq_ofNat_of_zero_le ho.1
  obtain ⟨b, rfl⟩ := Int.eq_ofNat_of_zero_le ha.1
  have e1 := List.all_eq_true.mp zshl12_all k (List.mem_range.mpr (by omega))
  rw [beq_iff_eq] at e1
  rw [e1, zor_n (by omega) (by omega)]
  have e2 := Nat.shiftLeft_add_eq_or_of_lt (i := 12) (b := b) (show b < 2 ^ 12 by omega) k
  rw [Nat.shiftLeft_eq] at e2
  rw [show k * 4096 = k * 2 ^ 12 by rfl, ← e2]
  omega
theorem q_Re_write {d : Nat} (hd : 1 ≤ d) {μ : zMem} {o a : Int} (ho : 0 ≤ o ∧ o < 14) (ha : 0 ≤ a ∧ a < 4096) (hw : 0 ≤ μ 321 5 ∧ μ 321 5 < 385) : zSp d 0 0 y_Re_write zT0 [vr 321, vi o, vi a] μ zT0 (fun r μ' => r = none ∧ μ' = zm (zm μ 323 (μ 321 5) (o * 4096 + a)) 321 5 (μ 321 5 + 1)) := by
  refine zSp.ss [vr 321, vi o, vi a] rfl (w_Re_write hd) rfl rfl ?_
  (try simp only [zit_e, Bool.and_eq_true, Bool.or_eq_true, Bool.not_eq_true', Bool.and_eq_false_iff, Bool.or_eq_false_iff, Bool.not_eq_false', zbe, zdt, zdf, zb2_p, zbp_0, zbp_1, zbp_inj, zbp_01, Bool.true_eq_false, Bool.false_eq_true, true_and, and_true, Decidable.not_not, Classical.not_not, implies_true, List.nil_append, List.cons_append, List.append_assoc, Option.some.injEq, Sum.inl.injEq, zSw_c, zSw_n]); (try simp only [zit_e, Bool.and_eq_true, Bool.or_eq_true, Bool.not_eq_true', Bool.and_eq_false_iff, Bool.or_eq_false_iff, Bool.not_eq_false', zbe, zdt, zdf, zb2_p, zbp_0, zbp_1, zbp_inj, zbp_01, Bool.true_eq_false, Bool.false_eq_true, true_and, and_true, Decidable.not_not, Classical.not_not, implies_true, List.nil_append, List.cons_append, List.append_assoc, Option.some.injEq, Sum.inl.injEq, zSw_c, zSw_n, zc_321]); (try simp only [zi_cs, zi_c0, zii_cs, zii_c0, zl_cs, zl_c0, zll_cs, zll_c0, zr_cs, zr_c0, zrr_cs, zrr_c0, zxs_cs, zxs_c0, zxx_cs, zxx_c0, zfree_c0, zfree_c1, zfree_cs, zfree_cz, zlong_i, zlong_r, zlong_x, zset_0, zset_s, true_and, and_true, Option.some.injEq, Sum.inl.injEq, Sum.inr.injEq, zb2_p, zbp_0, zbp_1, zbp_inj, zbp_01, Nat.zero_add, Nat.reduceAdd, implies_true, List.nil_append, List.cons_append, List.append_assoc, Int.not_lt, Int.not_le, Decidable.not_not, Int.zero_add, Int.reduceLE, Int.reduceLT, Int.reduceEq, Int.reduceNe, Int.reduceAdd, Int.reduceSub, Int.reduceMul, Int.reduceNeg, Int.reduceToNat, Nat.reduceMul, Nat.reduceLT, Nat.reduceEqDiff, and_self, ite_true, ite_false, zx1, zx2, zRecv, List.length_cons, List.length_nil, ne_eq, not_true_eq_false, not_false_eq_true, true_or, or_true, or_false, false_or, and_false, false_and, zf01, zf10, reduceCtorEq, zSw_c, zSw_n, zm_r, zit_T, zit_F, false_implies, true_implies, zc_321])
  rw [zop_mk ho ha, if_pos hw.2]
  exact ⟨hw.1, hw.2, by ((try simp only [zI_e]); (first | done | omega | skip)), rfl⟩
theorem q_Re_jumpHere {d : Nat} (hd : 1 ≤ d) {μ : zMem} {j o : Int} (ho : 0 ≤ o ∧ o < 14) (hj : 0 ≤ j ∧ j < 385) (hw : 0 ≤ μ 321 5 ∧ μ 321 5 < 4096) : zSp d 0 0 y_Re_jumpHere zT0 [vr 321, vi j, vi o] μ zT0 (fun r μ' => r = none ∧ μ' = zm μ 323 j (o * 4096 + μ 321 5)) := by
  refine zSp.ss [vr 321, vi j, vi o] rfl (w_Re_jumpHere hd) rfl rfl ?_
  (try simp only [zit_e, Bool.and_eq_true, Bool.or_eq_true, Bool.not_eq_true', Bool.and_eq_false_iff, Bool.or_eq_false_iff, Bool.not_eq_false', zbe, zdt, zdf, zb2_p, zbp_0, zbp_1, zbp_inj, zbp_01, Bool.true_eq_false, Bool.false_eq_true, true_and, and_true, Decidable.not_not, Classical.not_not, implies_true, List.nil_append, List.cons_append, List.append_assoc, Option.some.injEq, Sum.inl.injEq, zSw_c, zSw_n]); (try simp only [zit_e, Bool.and_eq_true, Bool.or_eq_true, Bool.not_eq_true', Bool.and_eq_false_iff, Bool.or_eq_false_iff, Bool.not_eq_false', zbe, zdt, zdf, zb2_p, zbp_0, zbp_1, zbp_inj, zbp_01, Bool.true_eq_false, Bool.false_eq_true, true_and, and_true, Decidable.not_not, Classical.not_not, implies_true, List.nil_append, List.cons_append, List.append_assoc, Option.some.injEq, Sum.inl.injEq, zSw_c, zSw_n, zc_321]); (try simp only [zi_cs, zi_c0, zii_cs, zii_c0, zl_cs, zl_c0, zll_cs, zll_c0, zr_cs, zr_c0, zrr_cs, zrr_c0, zxs_cs, zxs_c0, zxx_cs, zxx_c0, zfree_c0, zfree_c1, zfree_cs, zfree_cz, zlong_i, zlong_r, zlong_x, zset_0, zset_s, true_and, and_true, Option.some.injEq, Sum.inl.injEq, Sum.inr.injEq, zb2_p, zbp_0, zbp_1, zbp_inj, zbp_01, Nat.zero_add, Nat.reduceAdd, implies_true, List.nil_append, List.cons_append, List.append_assoc, Int.not_lt, Int.not_le, Decidable.not_not, Int.zero_add, Int.reduceLE, Int.reduceLT, Int.reduceEq, Int.reduceNe, Int.reduceAdd, Int.reduceSub, Int.reduceMul, Int.reduceNeg, Int.reduceToNat, Nat.reduceMul, Nat.reduceLT, Nat.reduceEqDiff, and_self, ite_true, ite_false, zx1, zx2, zRecv, List.length_cons, List.length_nil, ne_eq, not_true_eq_false, not_false_eq_true, true_or, or_true, or_false, false_or, and_false, false_and, zf01, zf10, reduceCtorEq, zSw_c, zSw_n, zm_r, zit_T, zit_F, false_implies, true_implies, zc_321])
  rw [zop_mk ho hw, if_pos hj.2]
  exact ⟨hj.1, hj.2, rfl⟩
theorem q_Re_mark {d : Nat} (hd : 2 ≤ d) {μ : zMem} {c q v : Int} (hc : 0 ≤ c ∧ c < 12) (hq : 0 ≤ q ∧ q < 7) : zSp d 0 0 y_Re_mark zT0 [vr 321, vi c, vi q, vi v] μ zT0 (fun r μ' => r = none ∧ μ' = zm μ 323 (1 + c * 7 + q) v) := by
  refine zSp.ss [vr 321, vi c, vi q, vi v, vx 0] rfl (w_Re_mark hd) rfl rfl ?_
  (try simp only [zit_e, Bool.and_eq_true, Bool.or_eq_true, Bool.not_eq_true', Bool.and_eq_false_iff, Bool.or_eq_false_iff, Bool.not_eq_false', zbe, zdt, zdf, zb2_p, zbp_0, zbp_1, zbp_inj, zbp_01, Bool.true_eq_false, Bool.false_eq_true, true_and, and_true, Decidable.not_not, Classical.not_not, implies_true, List.nil_append, List.cons_append, List.append_assoc, Option.some.injEq, Sum.inl.injEq, zSw_c, zSw_n]); (try simp only [zit_e, Bool.and_eq_true, Bool.or_eq_true, Bool.not_eq_true', Bool.and_eq_false_iff, Bool.or_eq_false_iff, Bool.not_eq_false', zbe, zdt, zdf, zb2_p, zbp_0, zbp_1, zbp_inj, zbp_01, Bool.true_eq_false, Bool.false_eq_true, true_and, and_true, Decidable.not_not, Classical.not_not, implies_true, List.nil_append, List.cons_append, List.append_assoc, Option.some.injEq, Sum.inl.injEq, zSw_c, zSw_n, zc_321, f_D_columnPlace, g_D_columnPlace, f_D_between, g_D_between]); (try simp only [zi_cs, zi_c0, zii_cs, zii_c0, zl_cs, zl_c0, zll_cs, zll_c0, zr_cs, zr_c0, zrr_cs, zrr_c0, zxs_cs, zxs_c0, zxx_cs, zxx_c0, zfree_c0, zfree_c1, zfree_cs, zfree_cz, zlong_i, zlong_r, zlong_x, zset_0, zset_s, true_and, and_true, Option.some.injEq, Sum.inl.injEq, Sum.inr.injEq, zb2_p, zbp_0, zbp_1, zbp_inj, zbp_01, Nat.zero_add, Nat.reduceAdd, implies_true, List.nil_append, List.cons_append, List.append_assoc, Int.not_lt, Int.not_le, Decidable.not_not, Int.zero_add, Int.reduceLE, Int.reduceLT, Int.reduceEq, Int.reduceNe, Int.reduceAdd, Int.reduceSub, Int.reduceMul, Int.reduceNeg, Int.reduceToNat, Nat.reduceMul, Nat.reduceLT, Nat.reduceEqDiff, and_self, ite_true, ite_false, zx1, zx2, zRecv, List.length_cons, List.length_nil, ne_eq, not_true_eq_false, not_false_eq_true, true_or, or_true, or_false, false_or, and_false, false_and, zf01, zf10, reduceCtorEq, zSw_c, zSw_n, zm_r, zit_T, zit_F, false_implies, true_implies, zc_321, f_D_columnPlace, g_D_columnPlace, f_D_between, g_D_between])
  refine ⟨by omega, ?_⟩
  rw [if_pos (by omega)]
  omega
/-- a sign that is none of a word or a number -/
def okS (s : Int) : Prop := 0 ≤ s ∧ ¬ isL s = true ∧ ¬ isD s = true
theorem RD_c {B : Int → Int} {n t : Nat} {μ μ' : zMem} (h : RD B n t μ) (h1 : μ' 322 = μ 322) (h2 : ∀ j : Int, 7 ≤ j ∨ j = 2 → μ' 321 j = μ 321 j) : RD B n t μ' := by
  obtain ⟨⟨a1, a2⟩, a3, a4, a5, a6⟩ := h
  refine ⟨⟨by rw [h1]; exact a1, by rw [h2 2 (by omega)]; exact a2⟩, by rw [h2 8 (by omega)]; exact a3, by rw [h2 9 (by omega)]; exact a4, by rw [h2 7 (by omega)]; exact a5, fun p q => by rw [h2 10 (by omega)]; exact a6 p q⟩
theorem q_Re_takeSign {d : Nat} (hd : 5 ≤ d) {μ : zMem} {B : Int → Int} {n t : Nat} {s : Int} (hB : okB B n) (h : RD B n t μ) (hs : okS s) : zSp d 0 0 y_Re_takeSign zT0 [vr 321, vi s] μ zT0 (fun r μ' => (cT B n t = 100 + s → r = some (vi 1) ∧ RD B n (t + 1) μ' ∧ (∀ j : Int, j ≤ 6 → μ' 321 j = μ 321 j) ∧ zfc [321] μ μ') ∧ (¬ cT B n t = 100 + s → r = some (vi 0) ∧ μ' = zm μ 321 3 (ps B n t))) := by
  have hp := RD_p h
  have hsg := RD_sign h hs.1 hs.2.1 hs.2.2
  refine zSp.ss [vr 321, vi s] rfl (w_Re_takeSign (Nat.le_trans (by decide) hd)) rfl rfl ?_
  (try simp only [zit_e, Bool.and_eq_true, Bool.or_eq_true, Bool.not_eq_true', Bool.and_eq_false_iff, Bool.or_eq_false_iff, Bool.not_eq_false', zbe, zdt, zdf, zb2_p, zbp_0, zbp_1, zbp_inj, zbp_01, Bool.true_eq_false, Bool.false_eq_true, true_and, and_true, Decidable.not_not, Classical.not_not, implies_true, List.nil_append, List.cons_append, List.append_assoc, Option.some.injEq, Sum.inl.injEq, zSw_c, zSw_n]); (try simp only [zit_e, Bool.and_eq_true, Bool.or_eq_true, Bool.not_eq_true', Bool.and_eq_false_iff, Bool.or_eq_false_iff, Bool.not_eq_false', zbe, zdt, zdf, zb2_p, zbp_0, zbp_1, zbp_inj, zbp_01, Bool.true_eq_false, Bool.false_eq_true, true_and, and_true, Decidable.not_not, Classical.not_not, implies_true, List.nil_append, List.cons_append, List.append_assoc, Option.some.injEq, Sum.inl.injEq, zSw_c, zSw_n, zc_321, f_Re_isSign, g_Re_isSign]); (try simp only [zi_cs, zi_c0, zii_cs, zii_c0, zl_cs, zl_c0, zll_cs, zll_c0, zr_cs, zr_c0, zrr_cs, zrr_c0, zxs_cs, zxs_c0, zxx_cs, zxx_c0, zfree_c0, zfree_c1, zfree_cs, zfree_cz, zlong_i, zlong_r, zlong_x, zset_0, zset_s, true_and, and_true, Option.some.injEq, Sum.inl.injEq, Sum.inr.injEq, zb2_p, zbp_0, zbp_1, zbp_inj, zbp_01, Nat.zero_add, Nat.reduceAdd, implies_true, List.nil_append, List.cons_append, List.append_assoc, Int.not_lt, Int.not_le, Decidable.not_not, Int.zero_add, Int.reduceLE, Int.reduceLT, Int.reduceEq, Int.reduceNe, Int.reduceAdd, Int.reduceSub, Int.reduceMul, Int.reduceNeg, Int.reduceToNat, Nat.reduceMul, Nat.reduceLT, Nat.reduceEqDiff, and_self, ite_true, ite_false, zx1, zx2, zRecv, List.length_cons, List.length_nil, ne_eq, not_true_eq_false, not_false_eq_true, true_or, or_true, or_false, false_or, and_false, false_and, zf01, zf10, reduceCtorEq, zSw_c, zSw_n, zm_r, zit_T, zit_F, false_implies, true_implies, zc_321, f_Re_isSign, g_Re_isSign])
  have hB1 := hB.1
  have hz := (RD_num hB h).2.2
  refine ⟨fun _ => by omega, ?_⟩
  refine zif (fun c => ?_) (fun c => ?_)
  · rw [hsg] at c
    refine zCw.use (q_Re_fail (d := 1) (by decide)) (by omega) (fun q μ' e => ?_)
    obtain ⟨rfl, rfl⟩ := e
    exact ⟨_, rfl, by simp, fun z => absurd z c, fun _ => ⟨rfl, by rw [hp.1.1]⟩⟩
  · rw [Classical.not_not, hsg] at c
    refine zCw.use (q_Re_next (d := 4) (by decide) hB h) (by omega) (fun q μ' e => ?_)
    exact ⟨e.1, fun _ => e.2, fun z => absurd c z⟩
theorem q_Re_take {d : Nat} (hd : 11 ≤ d) {μ : zMem} {B : Int → Int} {n t x : Nat} (hB : okB B n) (h : RD B n t μ) (hx : 2 ≤ x ∧ x < 13) : zSp d 0 0 y_Re_take zT0 [vr 321, vx x] μ zT0 (fun r μ' => (kwF x (cT B n t) = 0 → r = some (vi 1) ∧ RD B n (t + 1) μ' ∧ (∀ j : Int, j ≤ 6 → μ' 321 j = μ 321 j) ∧ zfc [321] μ μ') ∧ (¬ kwF x (cT B n t) = 0 → r = some (vi 0) ∧ μ' = zm μ 321 3 (ps B n t))) := by
  have hp := RD_p h
  have hB1 := hB.1
  have hw := RD_word hB h hx
  obtain ⟨x, rfl⟩ : ∃ k, x = k + 1 := ⟨x - 1, by omega⟩
  refine zSp.ss [vr 321, vx (x + 1)] rfl (w_Re_take (Nat.le_trans (by decide) hd)) rfl rfl ?_
  (try simp only [zit_e, Bool.and_eq_true, Bool.or_eq_true, Bool.not_eq_true', Bool.and_eq_false_iff, Bool.or_eq_false_iff, Bool.not_eq_false', zbe, zdt, zdf, zb2_p, zbp_0, zbp_1, zbp_inj, zbp_01, Bool.true_eq_false, Bool.false_eq_true, true_and, and_true, Decidable.not_not, Classical.not_not, implies_true, List.nil_append, List.cons_append, List.append_assoc, Option.some.injEq, Sum.inl.injEq, zSw_c, zSw_n]); (try simp only [zit_e, Bool.and_eq_true, Bool.or_eq_true, Bool.not_eq_true', Bool.and_eq_false_iff, Bool.or_eq_false_iff, Bool.not_eq_false', zbe, zdt, zdf, zb2_p, zbp_0, zbp_1, zbp_inj, zbp_01, Bool.true_eq_false, Bool.false_eq_true, true_and, and_true, Decidable.not_not, Classical.not_not, implies_true, List.nil_append, List.cons_append, List.append_assoc, Option.some.injEq, Sum.inl.injEq, zSw_c, zSw_n, zc_321, f_Re_isWord, g_Re_isWord]); (try simp only [zi_cs, zi_c0, zii_cs, zii_c0, zl_cs, zl_c0, zll_cs, zll_c0, zr_cs, zr_c0, zrr_cs, zrr_c0, zxs_cs, zxs_c0, zxx_cs, zxx_c0, zfree_c0, zfree_c1, zfree_cs, zfree_cz, zlong_i, zlong_r, zlong_x, zset_0, zset_s, true_and, and_true, Option.some.injEq, Sum.inl.injEq, Sum.inr.injEq, zb2_p, zbp_0, zbp_1, zbp_inj, zbp_01, Nat.zero_add, Nat.reduceAdd, implies_true, List.nil_append, List.cons_append, List.append_assoc, Int.not_lt, Int.not_le, Decidable.not_not, Int.zero_add, Int.reduceLE, Int.reduceLT, Int.reduceEq, Int.reduceNe, Int.reduceAdd, Int.reduceSub, Int.reduceMul, Int.reduceNeg, Int.reduceToNat, Nat.reduceMul, Nat.reduceLT, Nat.reduceEqDiff, and_self, ite_true, ite_false, zx1, zx2, zRecv, List.length_cons, List.length_nil, ne_eq, not_true_eq_false, not_false_eq_true, true_or, or_true, or_false, false_or, and_false, false_and, zf01, zf10, reduceCtorEq, zSw_c, zSw_n, zm_r, zit_T, zit_F, false_implies, true_implies, zc_321, f_Re_isWord, g_Re_isWord])
  rw [hw]
  refine ⟨⟨hx, fun _ => by omega⟩, ?_⟩
  refine zif (fun c => ?_) (fun c => ?_)
  · refine zCw.use (q_Re_fail (d := 1) (by decide)) (by omega) (fun q μ' e => ?_)
    obtain ⟨rfl, rfl⟩ := e
    exact ⟨_, rfl, by simp, fun z => absurd z c, fun _ => ⟨rfl, by rw [hp.1.1]⟩⟩
  · rw [Classical.not_not] at c
    refine zCw.use (q_Re_next (d := 4) (by decide) hB h) (by omega) (fun q μ' e => ?_)
    exact ⟨e.1, fun _ => e.2, fun z => absurd c z⟩
/-- the reader stands at a token, with so many parts, so much code -/
def PSt (B : Int → Int) (n : Nat) (o : Bool) (t l w : Nat) (μ : zMem) : Prop := RD B n t μ ∧ μ 321 6 = (l : Int) ∧ μ 321 5 = (w : Int) ∧ μ 321 4 = (if o = true then 1 else 0) ∧ μ 321 3 = -1
/-- what a parse leaves as it was -/
def FR (μ μ' : zMem) : Prop := zfc [321, 323] μ μ' ∧ μ' 321 2 = μ 321 2 ∧ μ' 321 4 = μ 321 4
theorem FR.rf {μ : zMem} : FR μ μ := ⟨zfc.rf, rfl, rfl⟩
theorem FR.tr {a b c : zMem} (h1 : FR a b) (h2 : FR b c) : FR a c := ⟨(h1.1.tr h2.1).mo (by simp), h2.2.1.trans h1.2.1, h2.2.2.trans h1.2.2⟩
/-- behind a parse -/
def RP (B : Int → Int) (n : Nat) (o : Bool) (R : PrR) (w : Nat) (μ : zMem) : zRo := fun r μ' => (∀ t1, R = (t1, none) → r = some (vi 0) ∧ μ' 321 3 = (ps B n t1 : Int) ∧ FR μ μ') ∧ ∀ t1 l1 m c, R = (t1, some (l1, m, c)) → r = some (vi 1) ∧ PSt B n o t1 l1 (w + c.length) μ' ∧ Seg (μ' 323) w c ∧ (∀ i : Int, i < w → μ' 323 i = μ 323 i) ∧ FR μ μ'
/-- a method parses as a parser does -/
def CT (d : Nat) (y : zMt) (as : List zV) (B : Int → Int) (n : Nat) (o : Bool) (pp : Pr) : Prop := ∀ (μ : zMem) (t l w : Nat), PSt B n o t l w μ → l ≤ 50 → t ≤ n → w ≤ 85 + 2 * l + NT (cT B n) t → zSp d 0 0 y zT0 (vr 321 :: as) μ zT0 (RP B n o (pp t l w) w μ)
theorem PSt_fault {B : Int → Int} {n : Nat} {o : Bool} {t l w : Nat} {μ : zMem} {v : Int} (h : PSt B n o t l w μ) : FR μ (zm μ 321 3 v) := ⟨zfc.rf.zm (by decide), by rw [zm_r, zit_t rfl, zit_f (by decide)], by rw [zm_r, zit_t rfl, zit_f (by decide)]⟩
theorem PSt_next {B : Int → Int} {n : Nat} {o : Bool} {t l w : Nat} {μ μ' : zMem} (h : PSt B n o t l w μ) (e1 : RD B n (t + 1) μ') (e2 : ∀ j : Int, j ≤ 6 → μ' 321 j = μ 321 j) (e3 : zfc [321] μ μ') : PSt B n o (t + 1) l w μ' ∧ FR μ μ' ∧ μ' 323 = μ 323 := ⟨⟨e1, by rw [e2 6 (by decide)]; exact h.2.1, by rw [e2 5 (by decide)]; exact h.2.2.1, by rw [e2 4 (by decide)]; exact h.2.2.2.1, by rw [e2 3 (by decide)]; exact h.2.2.2.2⟩, ⟨e3.mo (by simp), e2 2 (by decide), e2 4 (by decide)⟩, e3 323 (by decide)⟩

