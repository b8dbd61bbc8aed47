theorem zled_far {L O : Nat} (hL : zO 1 L = true) (hO : zO 1 O = true) (hne : L ≠ O) : L + 5 < O ∨ O + 5 < L := by
  have key : ∀ {a b : Nat}, zO 1 a = true → zO 1 b = true → a < b → a + 5 < b := fun {a b} ha hb hlt => by
    rcases Nat.lt_or_ge (a + 5) b with h | h
    · exact h
    · exfalso
      obtain ⟨fs, e⟩ := zO_of hb
      have hk : zkd b = 99 := by unfold zkd; rw [e]
      obtain ⟨-, ⟨k1, k2, k3, k4, k5⟩, -, -⟩ := zled ha
      rcases (show b = a + 1 ∨ b = a + 2 ∨ b = a + 3 ∨ b = a + 4 ∨ b = a + 5 by omega) with rfl | rfl | rfl | rfl | rfl
      · rw [k1] at hk; cases hk
      · rw [k2] at hk; cases hk
      · rw [k3] at hk; cases hk
      · rw [k4] at hk; cases hk
      · rw [k5] at hk; cases hk
  rcases Nat.lt_or_gt_of_ne hne with h | h
  · exact Or.inl (key hL hO h)
  · exact Or.inr (key hO hL h)
theorem zcp_r {μ : zMem} {q0 q1 a : Nat} {sp dp len i : Int} : zcp μ q0 sp q1 dp len a i = zit (a = q1 ∧ dp ≤ i ∧ i < dp + len) (μ q0 (sp + (i - dp))) (μ a i) := by
  unfold zcp zit
  by_cases h : a = q1 ∧ dp ≤ i ∧ i < dp + len <;> simp [h]
theorem zfc.cp {cs : List Nat} {μ1 μ2 : zMem} {q0 q1 : Nat} {sp dp len : Int} (h : zfc cs μ1 μ2) (hq : q1 ∈ cs) : zfc cs μ1 (zcp μ2 q0 sp q1 dp len) := fun k hk => by
  rw [← h k hk]
  funext i
  rw [zcp_r, zit_f (fun e : k = q1 ∧ dp ≤ i ∧ i < dp + len => hk (e.1 ▸ hq))]
theorem ka_Le_27 : Cond.methodLink "DebtDoors$Ledger" 27 arraycopyName ∈ zTb := (zTb_in 912 (by decide +kernel) (by decide +kernel))
theorem fp_1_6 : zFp 1 6 0 := ⟨_, rfl, rfl, rfl, by decide⟩
def y_Le_copyFrom : zMt := (⟨"DebtDoors$Ledger", "copyFrom", "(LDebtDoors$Ledger;)V"⟩, prog_3_method_2_code, 2, none)
theorem d_Le_copyFrom_0 : decode prog_3_method_2_code 0 = .ok (.aload_n 1, 1) := by decide +kernel
theorem d_Le_copyFrom_1 : decode prog_3_method_2_code 1 = .ok (.getfield 9, 3) := by decide +kernel
theorem d_Le_copyFrom_4 : decode prog_3_method_2_code 4 = .ok (.iconst 0, 1) := by decide +kernel
theorem d_Le_copyFrom_5 : decode prog_3_method_2_code 5 = .ok (.aload_n 0, 1) := by decide +kernel
theorem d_Le_copyFrom_6 : decode prog_3_method_2_code 6 = .ok (.getfield 9, 3) := by decide +kernel
theorem d_Le_copyFrom_9 : decode prog_3_method_2_code 9 = .ok (.iconst 0, 1) := by decide +kernel
theorem d_Le_copyFrom_10 : decode prog_3_method_2_code 10 = .ok (.bipush 7, 2) := by decide +kernel
theorem d_Le_copyFrom_12 : decode prog_3_method_2_code 12 = .ok (.invokestatic 27, 3) := by decide +kernel
theorem d_Le_copyFrom_15 : decode prog_3_method_2_code 15 = .ok (.aload_n 1, 1) := by decide +kernel
theorem d_Le_copyFrom_16 : decode prog_3_method_2_code 16 = .ok (.getfield 15, 3) := by decide +kernel
theorem d_Le_copyFrom_19 : decode prog_3_method_2_code 19 = .ok (.iconst 0, 1) := by decide +kernel
theorem d_Le_copyFrom_20 : decode prog_3_method_2_code 20 = .ok (.aload_n 0, 1) := by decide +kernel
theorem d_Le_copyFrom_21 : decode prog_3_method_2_code 21 = .ok (.getfield 15, 3) := by decide +kernel
theorem d_Le_copyFrom_24 : decode prog_3_method_2_code 24 = .ok (.iconst 0, 1) := by decide +kernel
theorem d_Le_copyFrom_25 : decode prog_3_method_2_code 25 = .ok (.bipush 16, 2) := by decide +kernel
theorem d_Le_copyFrom_27 : decode prog_3_method_2_code 27 = .ok (.invokestatic 27, 3) := by decide +kernel
theorem d_Le_copyFrom_30 : decode prog_3_method_2_code 30 = .ok (.aload_n 1, 1) := by decide +kernel
theorem d_Le_copyFrom_31 : decode prog_3_method_2_code 31 = .ok (.getfield 18, 3) := by decide +kernel
theorem d_Le_copyFrom_34 : decode prog_3_method_2_code 34 = .ok (.iconst 0, 1) := by decide +kernel
theorem d_Le_copyFrom_35 : decode prog_3_method_2_code 35 = .ok (.aload_n 0, 1) := by decide +kernel
theorem d_Le_copyFrom_36 : decode prog_3_method_2_code 36 = .ok (.getfield 18, 3) := by decide +kernel
theorem d_Le_copyFrom_39 : decode prog_3_method_2_code 39 = .ok (.iconst 0, 1) := by decide +kernel
theorem d_Le_copyFrom_40 : decode prog_3_method_2_code 40 = .ok (.bipush 16, 2) := by decide +kernel
theorem d_Le_copyFrom_42 : decode prog_3_method_2_code 42 = .ok (.invokestatic 27, 3) := by decide +kernel
theorem d_Le_copyFrom_45 : decode prog_3_method_2_code 45 = .ok (.aload_n 1, 1) := by decide +kernel
theorem d_Le_copyFrom_46 : decode prog_3_method_2_code 46 = .ok (.getfield 21, 3) := by decide +kernel
theorem d_Le_copyFrom_49 : decode prog_3_method_2_code 49 = .ok (.iconst 0, 1) := by decide +kernel
theorem d_Le_copyFrom_50 : decode prog_3_method_2_code 50 = .ok (.aload_n 0, 1) := by decide +kernel
theorem d_Le_copyFrom_51 : decode prog_3_method_2_code 51 = .ok (.getfield 21, 3) := by decide +kernel
theorem d_Le_copyFrom_54 : decode prog_3_method_2_code 54 = .ok (.iconst 0, 1) := by decide +kernel
theorem d_Le_copyFrom_55 : decode prog_3_method_2_code 55 = .ok (.bipush 16, 2) := by decide +kernel
theorem d_Le_copyFrom_57 : decode prog_3_method_2_code 57 = .ok (.invokestatic 27, 3) := by decide +kernel
theorem d_Le_copyFrom_60 : decode prog_3_method_2_code 60 = .ok (.aload_n 1, 1) := by decide +kernel
theorem d_Le_copyFrom_61 : decode prog_3_method_2_code 61 = .ok (.getfield 24, 3) := by decide +kernel
theorem d_Le_copyFrom_64 : decode prog_3_method_2_code 64 = .ok (.iconst 0, 1) := by decide +kernel
theorem d_Le_copyFrom_65 : decode prog_3_method_2_code 65 = .ok (.aload_n 0, 1) := by decide +kernel
theorem d_Le_copyFrom_66 : decode prog_3_method_2_code 66 = .ok (.getfield 24, 3) := by decide +kernel
theorem d_Le_copyFrom_69 : decode prog_3_method_2_code 69 = .ok (.iconst 0, 1) := by decide +kernel
theorem d_Le_copyFrom_70 : decode prog_3_method_2_code 70 = .ok (.bipush 16, 2) := by decide +kernel
theorem d_Le_copyFrom_72 : decode prog_3_method_2_code 72 = .ok (.invokestatic 27, 3) := by decide +kernel
theorem d_Le_copyFrom_75 : decode prog_3_method_2_code 75 = .ok (.aload_n 0, 1) := by decide +kernel
theorem d_Le_copyFrom_76 : decode prog_3_method_2_code 76 = .ok (.aload_n 1, 1) := by decide +kernel
theorem d_Le_copyFrom_77 : decode prog_3_method_2_code 77 = .ok (.getfield 33, 3) := by decide +kernel
theorem d_Le_copyFrom_80 : decode prog_3_method_2_code 80 = .ok (.putfield 33, 3) := by decide +kernel
theorem d_Le_copyFrom_83 : decode prog_3_method_2_code 83 = .ok (.aload_n 0, 1) := by decide +kernel
theorem d_Le_copyFrom_84 : decode prog_3_method_2_code 84 = .ok (.aload_n 1, 1) := by decide +kernel
theorem d_Le_copyFrom_85 : decode prog_3_method_2_code 85 = .ok (.getfield 37, 3) := by decide +kernel
theorem d_Le_copyFrom_88 : decode prog_3_method_2_code 88 = .ok (.putfield 37, 3) := by decide +kernel
theorem d_Le_copyFrom_91 : decode prog_3_method_2_code 91 = .ok (.return_, 1) := by decide +kernel
def w_Le_copyFrom {d : Nat} (hd : 3 ≤ d) := (show SS ("DebtDoors$Ledger", prog_3_method_2_code, 2) (none) d 0 0 0 0 _ from (sS (p1 := 15) (sCp ka_Le_27 (rFr fl_Le_9 nk_1_0 (rAn 1 d_Le_copyFrom_0 rfl) d_Le_copyFrom_1) (rI d_Le_copyFrom_4 rfl) (rFr fl_Le_9 nk_1_0 (rAn 0 d_Le_copyFrom_5 rfl) d_Le_copyFrom_6) (rI d_Le_copyFrom_9 rfl) (rB d_Le_copyFrom_10 rfl) (Nat.le_trans (Nat.le_of_ble_eq_true rfl) hd) d_Le_copyFrom_12) (sS (p1 := 30) (sCp ka_Le_27 (rFr fl_Le_15 nk_1_1 (rAn 1 d_Le_copyFrom_15 rfl) d_Le_copyFrom_16) (rI d_Le_copyFrom_19 rfl) (rFr fl_Le_15 nk_1_1 (rAn 0 d_Le_copyFrom_20 rfl) d_Le_copyFrom_21) (rI d_Le_copyFrom_24 rfl) (rB d_Le_copyFrom_25 rfl) (Nat.le_trans (Nat.le_of_ble_eq_true rfl) hd) d_Le_copyFrom_27) (sS (p1 := 45) (sCp ka_Le_27 (rFr fl_Le_18 nk_1_2 (rAn 1 d_Le_copyFrom_30 rfl) d_Le_copyFrom_31) (rI d_Le_copyFrom_34 rfl) (rFr fl_Le_18 nk_1_2 (rAn 0 d_Le_copyFrom_35 rfl) d_Le_copyFrom_36) (rI d_Le_copyFrom_39 rfl) (rB d_Le_copyFrom_40 rfl) (Nat.le_trans (Nat.le_of_ble_eq_true rfl) hd) d_Le_copyFrom_42) (sS (p1 := 60) (sCp ka_Le_27 (rFr fl_Le_21 nk_1_3 (rAn 1 d_Le_copyFrom_45 rfl) d_Le_copyFrom_46) (rI d_Le_copyFrom_49 rfl) (rFr fl_Le_21 nk_1_3 (rAn 0 d_Le_copyFrom_50 rfl) d_Le_copyFrom_51) (rI d_Le_copyFrom_54 rfl) (rB d_Le_copyFrom_55 rfl) (Nat.le_trans (Nat.le_of_ble_eq_true rfl) hd) d_Le_copyFrom_57) (sS (p1 := 75) (sCp ka_Le_27 (rFr fl_Le_24 nk_1_4 (rAn 1 d_Le_copyFrom_60 rfl) d_Le_copyFrom_61) (rI d_Le_copyFrom_64 rfl) (rFr fl_Le_24 nk_1_4 (rAn 0 d_Le_copyFrom_65 rfl) d_Le_copyFrom_66) (rI d_Le_copyFrom_69 rfl) (rB d_Le_copyFrom_70 rfl) (Nat.le_trans (Nat.le_of_ble_eq_true rfl) hd) d_Le_copyFrom_72) (sS (p1 := 83) (sP 5 fl_Le_33 fp_1_5 nk_1_5 (rAn 0 d_Le_copyFrom_75 rfl) (xE (rF 5 fl_Le_33 nk_1_5 (rAn 1 d_Le_copyFrom_76 rfl) d_Le_copyFrom_77 rfl)) d_Le_copyFrom_80 rfl) (sS (p1 := 91) (sP 6 fl_Le_37 fp_1_6 nk_1_6 (rAn 0 d_Le_copyFrom_83 rfl) (xE (rF 6 fl_Le_37 nk_1_6 (rAn 1 d_Le_copyFrom_84 rfl) d_Le_copyFrom_85 rfl)) d_Le_copyFrom_88 rfl) (sRv d_Le_copyFrom_91 rfl)))))))))
theorem q_Le_copyFrom {d : Nat} (hd : 4 ≤ d) {μ : zMem} {L O : Nat} (hL : zO 1 L = true) (hO : zO 1 O = true) (hne : L ≠ O) : zSp d 0 0 y_Le_copyFrom zT0 [vr L, vr O] μ zT0 (fun r μ' => r = none ∧ (∀ i : Int, 0 ≤ i → i < 7 → μ' (L + 1) i = μ (O + 1) i) ∧ (∀ i : Int, 0 ≤ i → i < 16 → μ' (L + 2) i = μ (O + 2) i ∧ μ' (L + 3) i = μ (O + 3) i ∧ μ' (L + 4) i = μ (O + 4) i ∧ μ' (L + 5) i = μ (O + 5) i) ∧ μ' L 5 = μ O 5 ∧ μ' L 6 = μ O 6 ∧ zfc [L, L + 1, L + 2, L + 3, L + 4, L + 5] μ μ') := by
  have hf := zled_far hL hO hne
  refine zSp.ss [vr L, vr O] rfl (w_Le_copyFrom (Nat.le_trans (by decide) hd)) rfl rfl ?_
  (try simp only [zit_e, Bool.and_eq_true, Bool.or_eq_true, Bool.not_eq_true', Bool.and_eq_false_iff, Bool.or_eq_false_iff, Bool.not_eq_false', zbe, zdt, zdf, zb2_p, zbp_0, zbp_1, zbp_inj, zbp_01, Bool.true_eq_false, Bool.false_eq_true, true_and, and_true, Decidable.not_not, Classical.not_not, implies_true, List.nil_append, List.cons_append, List.append_assoc, Option.some.injEq, Sum.inl.injEq, zSw_c, zSw_n]); (try simp only [zit_e, Bool.and_eq_true, Bool.or_eq_true, Bool.not_eq_true', Bool.and_eq_false_iff, Bool.or_eq_false_iff, Bool.not_eq_false', zbe, zdt, zdf, zb2_p, zbp_0, zbp_1, zbp_inj, zbp_01, Bool.true_eq_false, Bool.false_eq_true, true_and, and_true, Decidable.not_not, Classical.not_not, implies_true, List.nil_append, List.cons_append, List.append_assoc, Option.some.injEq, Sum.inl.injEq, zSw_c, zSw_n, (zled hL).1.1, (zled hL).1.2.1, (zled hL).1.2.2.1, (zled hL).1.2.2.2.1, (zled hL).1.2.2.2.2, (zled hL).2.1.1, (zled hL).2.1.2.1, (zled hL).2.1.2.2.1, (zled hL).2.1.2.2.2.1, (zled hL).2.1.2.2.2.2, (zled hL).2.2.1.1, (zled hL).2.2.1.2.1, (zled hL).2.2.1.2.2.1, (zled hL).2.2.1.2.2.2.1, (zled hL).2.2.1.2.2.2.2, hL, (zled hO).1.1, (zled hO).1.2.1, (zled hO).1.2.2.1, (zled hO).1.2.2.2.1, (zled hO).1.2.2.2.2, (zled hO).2.1.1, (zled hO).2.1.2.1, (zled hO).2.1.2.2.1, (zled hO).2.1.2.2.2.1, (zled hO).2.1.2.2.2.2, (zled hO).2.2.1.1, (zled hO).2.2.1.2.1, (zled hO).2.2.1.2.2.1, (zled hO).2.2.1.2.2.2.1, (zled hO).2.2.1.2.2.2.2, hO]); (try simp only [zi_cs, zi_c0, zii_cs, zii_c0, zl_cs, zl_c0, zll_cs, zll_c0, zr_cs, zr_c0, zrr_cs, zrr_c0, zxs_cs, zxs_c0, zxx_cs, zxx_c0, zfree_c0, zfree_c1, zfree_cs, zfree_cz, zlong_i, zlong_r, zlong_x, zset_0, zset_s, true_and, and_true, Option.some.injEq, Sum.inl.injEq, Sum.inr.injEq, zb2_p, zbp_0, zbp_1, zbp_inj, zbp_01, Nat.zero_add, Nat.reduceAdd, implies_true, List.nil_append, List.cons_append, List.append_assoc, Int.not_lt, Int.not_le, Decidable.not_not, Int.zero_add, Int.reduceLE, Int.reduceLT, Int.reduceEq, Int.reduceNe, Int.reduceAdd, Int.reduceSub, Int.reduceMul, Int.reduceNeg, Int.reduceToNat, Nat.reduceMul, Nat.reduceLT, Nat.reduceEqDiff, and_self, ite_true, ite_false, zx1, zx2, zRecv, List.length_cons, List.length_nil, ne_eq, not_true_eq_false, not_false_eq_true, true_or, or_true, or_false, false_or, and_false, false_and, zf01, zf10, reduceCtorEq, zSw_c, zSw_n, zm_r, zit_T, zit_F, false_implies, true_implies, (zled hL).1.1, (zled hL).1.2.1, (zled hL).1.2.2.1, (zled hL).1.2.2.2.1, (zled hL).1.2.2.2.2, (zled hL).2.1.1, (zled hL).2.1.2.1, (zled hL).2.1.2.2.1, (zled hL).2.1.2.2.2.1, (zled hL).2.1.2.2.2.2, (zled hL).2.2.1.1, (zled hL).2.2.1.2.1, (zled hL).2.2.1.2.2.1, (zled hL).2.2.1.2.2.2.1, (zled hL).2.2.1.2.2.2.2, hL, (zled hO).1.1, (zled hO).1.2.1, (zled hO).1.2.2.1, (zled hO).1.2.2.2.1, (zled hO).1.2.2.2.2, (zled hO).2.1.1, (zled hO).2.1.2.1, (zled hO).2.1.2.2.1, (zled hO).2.1.2.2.2.1, (zled hO).2.1.2.2.2.2, (zled hO).2.2.1.1, (zled hO).2.2.1.2.1, (zled hO).2.2.1.2.2.1, (zled hO).2.2.1.2.2.2.1, (zled hO).2.2.1.2.2.2.2, hO])
  simp only [zcp_r, Int.sub_zero, Int.zero_add, true_and]
  refine ⟨fun i h0 h1 => ?_, fun i h0 h1 => ⟨?_, ?_, ?_, ?_⟩, ?_, ?_, ?_⟩
  · (repeat (first | rw [zit_f (by omega)] | rw [zit_t (by omega)]))
  · (repeat (first | rw [zit_f (by omega)] | rw [zit_t (by omega)]))
  · (repeat (first | rw [zit_f (by omega)] | rw [zit_t (by omega)]))
  · (repeat (first | rw [zit_f (by omega)] | rw [zit_t (by omega)]))
  · (repeat (first | rw [zit_f (by omega)] | rw [zit_t (by omega)]))
  · (repeat (first | rw [zit_f (by omega)] | rw [zit_t (by omega)]))
  · (repeat (first | rw [zit_f (by omega)] | rw [zit_t (by omega)]))
  · refine zfc.zm (zfc.zm (zfc.cp (zfc.cp (zfc.cp (zfc.cp (zfc.cp zfc.rf ?_) ?_) ?_) ?_) ?_) ?_) ?_ <;> simp

