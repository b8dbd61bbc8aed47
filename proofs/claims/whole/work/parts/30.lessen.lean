def lsL (f t : Int) : Int → List D4 → List D4
  | _, [] => []
  | r, (a, b, m, s) :: l => if a = f ∧ b = t then (a, b, m - min r m, s) :: lsL f t (r - min r m) l else (a, b, m, s) :: lsL f t r l
def rsL (f t : Int) : Int → List D4 → Int
  | r, [] => r
  | r, (a, b, m, _) :: l => if a = f ∧ b = t then rsL f t (r - min r m) l else rsL f t r l
theorem lsL_app {f t : Int} : ∀ {r : Int} {l l2 : List D4}, lsL f t r (l ++ l2) = lsL f t r l ++ lsL f t (rsL f t r l) l2
  | r, [], l2 => rfl
  | r, (a, b, m, s) :: l, l2 => by
    rw [List.cons_append, lsL, lsL, rsL]
    split
    · rw [lsL_app, List.cons_append]
    · rw [lsL_app, List.cons_append]
theorem rsL_app {f t : Int} : ∀ {r : Int} {l l2 : List D4}, rsL f t r (l ++ l2) = rsL f t (rsL f t r l) l2
  | r, [], l2 => rfl
  | r, (a, b, m, s) :: l, l2 => by
    rw [List.cons_append, rsL, rsL]
    split
    · rw [rsL_app]
    · rw [rsL_app]
theorem lsL_s {f t r : Int} {n : Nat} {g : Int → D4} : lsL f t r (tL (n + 1) g) = lsL f t r (tL n g) ++ [if (g n).1 = f ∧ (g n).2.1 = t then ((g n).1, (g n).2.1, (g n).2.2.1 - min (rsL f t r (tL n g)) (g n).2.2.1, (g n).2.2.2) else g n] := by
  rw [tL_succ, lsL_app]
  congr 1
  show lsL f t _ [((g n).1, (g n).2.1, (g n).2.2.1, (g n).2.2.2)] = _
  unfold lsL
  split <;> rfl
theorem rsL_s {f t r : Int} {n : Nat} {g : Int → D4} : rsL f t r (tL (n + 1) g) = if (g n).1 = f ∧ (g n).2.1 = t then rsL f t r (tL n g) - min (rsL f t r (tL n g)) (g n).2.2.1 else rsL f t r (tL n g) := by
  rw [tL_succ, rsL_app]
  show rsL f t _ [((g n).1, (g n).2.1, (g n).2.2.1, (g n).2.2.2)] = _
  rw [rsL]
  split <;> rfl
theorem rsL_in {f t r n : Int} {g : Int → D4} (hr : 0 ≤ r) (h : okT n g) : ∀ j : Nat, j ≤ n → 0 ≤ rsL f t r (tL j g) ∧ rsL f t r (tL j g) ≤ r
  | 0, _ => by simp [tL, rsL, hr]
  | j + 1, hj => by
    have h1 := rsL_in (f := f) (t := t) hr h j (by omega)
    have h2 := (h.2 j (by omega) (by omega)).2.2.2.1
    rw [rsL_s]
    split <;> omega
theorem km_Le_40 : Cond.methodLink "DebtDoors$Ledger" 40 Lib.Math.min.name ∈ zTb := (zTb_in 958 (by decide +kernel) (by decide +kernel))
theorem m_Le_dropPaid : Cond.instanceMethod y_Le_dropPaid.1 ∈ zTb ∧ Cond.selects y_Le_dropPaid.1.cls y_Le_dropPaid.1 y_Le_dropPaid.1 ∈ zTb ∧ Cond.initialized y_Le_dropPaid.1.cls ∈ zTb ∧ Cond.code y_Le_dropPaid.1 y_Le_dropPaid.2.1 y_Le_dropPaid.2.2.1 y_Le_dropPaid.2.2.2 ∈ zTb ∧ (y_Le_dropPaid.1.cls ≠ "java/lang/invoke/MethodHandle" ∧ y_Le_dropPaid.1.cls ≠ "java/lang/invoke/VarHandle" ∧ (parseMethodDescriptor y_Le_dropPaid.1.desc).map (fun d => d.parameters.length) = some 0) ∧ y_Le_dropPaid.2.2.1 ≤ 20 :=
  ⟨(zTb_in 960 (by decide +kernel) (by decide +kernel)), (zTb_in 961 (by decide +kernel) (by decide +kernel)), (zTb_in 141 (by decide +kernel) (by decide +kernel)), (zTb_in 962 (by decide +kernel) (by decide +kernel)), by decide +kernel, by decide +kernel⟩
theorem lv_Le_46 : zLv "DebtDoors$Ledger" 46 y_Le_dropPaid 0 1 := ⟨⟨(zTb_in 959 (by decide +kernel) (by decide +kernel)), m_Le_dropPaid.1, m_Le_dropPaid.2.1, m_Le_dropPaid.2.2⟩, _, rfl, rfl⟩
def y_Le_lessen : zMt := (⟨"DebtDoors$Ledger", "lessen", "(III)V"⟩, prog_3_method_7_code, 7, none)
theorem d_Le_lessen_0 : decode prog_3_method_7_code 0 = .ok (.iload_n 3, 1) := by decide +kernel
theorem d_Le_lessen_1 : decode prog_3_method_7_code 1 = .ok (.istore 4, 2) := by decide +kernel
theorem d_Le_lessen_3 : decode prog_3_method_7_code 3 = .ok (.iconst 0, 1) := by decide +kernel
theorem d_Le_lessen_4 : decode prog_3_method_7_code 4 = .ok (.istore 5, 2) := by decide +kernel
theorem d_Le_lessen_6 : decode prog_3_method_7_code 6 = .ok (.iload 5, 2) := by decide +kernel
theorem d_Le_lessen_8 : decode prog_3_method_7_code 8 = .ok (.aload_n 0, 1) := by decide +kernel
theorem d_Le_lessen_9 : decode prog_3_method_7_code 9 = .ok (.getfield 33, 3) := by decide +kernel
theorem d_Le_lessen_12 : decode prog_3_method_7_code 12 = .ok (.if_icmp .ge 64, 3) := by decide +kernel
theorem d_Le_lessen_15 : decode prog_3_method_7_code 15 = .ok (.aload_n 0, 1) := by decide +kernel
theorem d_Le_lessen_16 : decode prog_3_method_7_code 16 = .ok (.getfield 15, 3) := by decide +kernel
theorem d_Le_lessen_19 : decode prog_3_method_7_code 19 = .ok (.iload 5, 2) := by decide +kernel
theorem d_Le_lessen_21 : decode prog_3_method_7_code 21 = .ok (.iaload, 1) := by decide +kernel
theorem d_Le_lessen_22 : decode prog_3_method_7_code 22 = .ok (.iload_n 1, 1) := by decide +kernel
theorem d_Le_lessen_23 : decode prog_3_method_7_code 23 = .ok (.if_icmp .ne 47, 3) := by decide +kernel
theorem d_Le_lessen_26 : decode prog_3_method_7_code 26 = .ok (.aload_n 0, 1) := by decide +kernel
theorem d_Le_lessen_27 : decode prog_3_method_7_code 27 = .ok (.getfield 18, 3) := by decide +kernel
theorem d_Le_lessen_30 : decode prog_3_method_7_code 30 = .ok (.iload 5, 2) := by decide +kernel
theorem d_Le_lessen_32 : decode prog_3_method_7_code 32 = .ok (.iaload, 1) := by decide +kernel
theorem d_Le_lessen_33 : decode prog_3_method_7_code 33 = .ok (.iload_n 2, 1) := by decide +kernel
theorem d_Le_lessen_34 : decode prog_3_method_7_code 34 = .ok (.if_icmp .ne 36, 3) := by decide +kernel
theorem d_Le_lessen_37 : decode prog_3_method_7_code 37 = .ok (.iload 4, 2) := by decide +kernel
theorem d_Le_lessen_39 : decode prog_3_method_7_code 39 = .ok (.aload_n 0, 1) := by decide +kernel
theorem d_Le_lessen_40 : decode prog_3_method_7_code 40 = .ok (.getfield 21, 3) := by decide +kernel
theorem d_Le_lessen_43 : decode prog_3_method_7_code 43 = .ok (.iload 5, 2) := by decide +kernel
theorem d_Le_lessen_45 : decode prog_3_method_7_code 45 = .ok (.iaload, 1) := by decide +kernel
theorem d_Le_lessen_46 : decode prog_3_method_7_code 46 = .ok (.invokestatic 40, 3) := by decide +kernel
theorem d_Le_lessen_49 : decode prog_3_method_7_code 49 = .ok (.istore 6, 2) := by decide +kernel
theorem d_Le_lessen_51 : decode prog_3_method_7_code 51 = .ok (.aload_n 0, 1) := by decide +kernel
theorem d_Le_lessen_52 : decode prog_3_method_7_code 52 = .ok (.getfield 21, 3) := by decide +kernel
theorem d_Le_lessen_55 : decode prog_3_method_7_code 55 = .ok (.iload 5, 2) := by decide +kernel
theorem d_Le_lessen_57 : decode prog_3_method_7_code 57 = .ok (.dup2, 1) := by decide +kernel
theorem d_Le_lessen_58 : decode prog_3_method_7_code 58 = .ok (.iaload, 1) := by decide +kernel
theorem d_Le_lessen_59 : decode prog_3_method_7_code 59 = .ok (.iload 6, 2) := by decide +kernel
theorem d_Le_lessen_61 : decode prog_3_method_7_code 61 = .ok (.isub, 1) := by decide +kernel
theorem d_Le_lessen_62 : decode prog_3_method_7_code 62 = .ok (.iastore, 1) := by decide +kernel
theorem d_Le_lessen_63 : decode prog_3_method_7_code 63 = .ok (.iload 4, 2) := by decide +kernel
theorem d_Le_lessen_65 : decode prog_3_method_7_code 65 = .ok (.iload 6, 2) := by decide +kernel
theorem d_Le_lessen_67 : decode prog_3_method_7_code 67 = .ok (.isub, 1) := by decide +kernel
theorem d_Le_lessen_68 : decode prog_3_method_7_code 68 = .ok (.istore 4, 2) := by decide +kernel
theorem d_Le_lessen_70 : decode prog_3_method_7_code 70 = .ok (.iinc 5 1, 3) := by decide +kernel
theorem d_Le_lessen_73 : decode prog_3_method_7_code 73 = .ok (.goto (-67), 3) := by decide +kernel
theorem d_Le_lessen_76 : decode prog_3_method_7_code 76 = .ok (.aload_n 0, 1) := by decide +kernel
theorem d_Le_lessen_77 : decode prog_3_method_7_code 77 = .ok (.invokevirtual 46, 3) := by decide +kernel
theorem d_Le_lessen_80 : decode prog_3_method_7_code 80 = .ok (.return_, 1) := by decide +kernel
def w_Le_lessen {d : Nat} (hd : 3 ≤ d) := (show SS ("DebtDoors$Ledger", prog_3_method_7_code, 7) (none) d 0 0 0 0 _ from (sS (p1 := 3) (sI (xE (rIn 3 d_Le_lessen_0 rfl)) d_Le_lessen_1 (by decide)) (sS (p1 := 76) (sS (p1 := 6) (sI (xE (rI d_Le_lessen_3 rfl)) d_Le_lessen_4 (by decide)) (sLp (ps := 70) (tt := 15) (pn := 76) (p1 := 0) (p2 := 0) (xC (rNot (rJ2 (tgt := 76) j_ge (rIl d_Le_lessen_6) (rF 5 fl_Le_33 nk_1_5 (rAn 0 d_Le_lessen_8 rfl) d_Le_lessen_9 rfl) d_Le_lessen_12 (by decide)))) (sIf (pn := 70) (tt := 37) (xC (rAnd (mm := 26) (rNot (rJ2 (tgt := 70) j_ne (rIa (rFr fl_Le_15 nk_1_1 (rAn 0 d_Le_lessen_15 rfl) d_Le_lessen_16) (rIl d_Le_lessen_19) d_Le_lessen_21) (rIn 1 d_Le_lessen_22 rfl) d_Le_lessen_23 (by decide))) (rNot (rJ2 (tgt := 70) j_ne (rIa (rFr fl_Le_18 nk_1_2 (rAn 0 d_Le_lessen_26 rfl) d_Le_lessen_27) (rIl d_Le_lessen_30) d_Le_lessen_32) (rIn 2 d_Le_lessen_33 rfl) d_Le_lessen_34 (by decide))))) (sS (p1 := 51) (sI (xE (rMin km_Le_40 (rIl d_Le_lessen_37) (rIa (rFr fl_Le_21 nk_1_3 (rAn 0 d_Le_lessen_39 rfl) d_Le_lessen_40) (rIl d_Le_lessen_43) d_Le_lessen_45) (by decide) (Nat.le_trans (Nat.le_of_ble_eq_true rfl) hd) d_Le_lessen_46)) d_Le_lessen_49 (by decide)) (sS (p1 := 63) (sAo o_sub (rFr fl_Le_21 nk_1_3 (rAn 0 d_Le_lessen_51 rfl) d_Le_lessen_52) (rIl d_Le_lessen_55) d_Le_lessen_57 d_Le_lessen_58 (rIl d_Le_lessen_59) d_Le_lessen_61 d_Le_lessen_62) (sI (xE (r2 o_sub (rIl d_Le_lessen_63) (rIl d_Le_lessen_65) d_Le_lessen_67)) d_Le_lessen_68 (by decide))))) (sGo (pn := 6) (sInc d_Le_lessen_70 (by decide)) d_Le_lessen_73 (by decide)))) (sS (p1 := 80) (sV (xVv lv_Le_46 (xA (rAr rA0 (rAn 0 d_Le_lessen_76 rfl))) (by decide) d_Le_lessen_77)) (sRv d_Le_lessen_80 rfl)))))
theorem q_Le_lessen {d : Nat} (hd : 4 ≤ d) {μ : zMem} {f t m : Int} (h : okT (μ 2 5) (fD μ)) (hm : 0 ≤ m ∧ m ≤ 1000000) : zSp d 0 0 y_Le_lessen zT0 [vr 2, vi f, vi t, vi m] μ zT0 (fun r μ' => r = none ∧ dbD μ' = dpL (lsL f t m (dbD μ)) ∧ (0 ≤ μ' 2 5 ∧ μ' 2 5 ≤ μ 2 5) ∧ μ' 2 6 = μ 2 6 ∧ zfc [2, 4, 5, 6, 7] μ μ') := by
  have hn := h.1
  refine zSp.ss [vr 2, vi f, vi t, vi m, vx 0, vx 0, vx 0] rfl (w_Le_lessen (Nat.le_trans (by decide) hd)) rfl rfl ?_
  (try simp only [zit_e, Bool.and_eq_true, Bool.or_eq_true, Bool.not_eq_true', Bool.and_eq_false_iff, Bool.or_eq_false_iff, Bool.not_eq_false', zbe, zdt, zdf, zb2_p, zbp_0, zbp_1, zbp_inj, zbp_01, Bool.true_eq_false, Bool.false_eq_true, true_and, and_true, Decidable.not_not, Classical.not_not, implies_true, List.nil_append, List.cons_append, List.append_assoc, Option.some.injEq, Sum.inl.injEq, zSw_c, zSw_n]); (try simp only [zit_e, Bool.and_eq_true, Bool.or_eq_true, Bool.not_eq_true', Bool.and_eq_false_iff, Bool.or_eq_false_iff, Bool.not_eq_false', zbe, zdt, zdf, zb2_p, zbp_0, zbp_1, zbp_inj, zbp_01, Bool.true_eq_false, Bool.false_eq_true, true_and, and_true, Decidable.not_not, Classical.not_not, implies_true, List.nil_append, List.cons_append, List.append_assoc, Option.some.injEq, Sum.inl.injEq, zSw_c, zSw_n, zc_2]); (try simp only [zi_cs, zi_c0, zii_cs, zii_c0, zl_cs, zl_c0, zll_cs, zll_c0, zr_cs, zr_c0, zrr_cs, zrr_c0, zxs_cs, zxs_c0, zxx_cs, zxx_c0, zfree_c0, zfree_c1, zfree_cs, zfree_cz, zlong_i, zlong_r, zlong_x, zset_0, zset_s, true_and, and_true, Option.some.injEq, Sum.inl.injEq, Sum.inr.injEq, zb2_p, zbp_0, zbp_1, zbp_inj, zbp_01, Nat.zero_add, Nat.reduceAdd, implies_true, List.nil_append, List.cons_append, List.append_assoc, Int.not_lt, Int.not_le, Decidable.not_not, Int.zero_add, Int.reduceLE, Int.reduceLT, Int.reduceEq, Int.reduceNe, Int.reduceAdd, Int.reduceSub, Int.reduceMul, Int.reduceNeg, Int.reduceToNat, Nat.reduceMul, Nat.reduceLT, Nat.reduceEqDiff, and_self, ite_true, ite_false, zx1, zx2, zRecv, List.length_cons, List.length_nil, ne_eq, not_true_eq_false, not_false_eq_true, true_or, or_true, or_false, false_or, and_false, false_and, zf01, zf10, reduceCtorEq, zSw_c, zSw_n, zm_r, zit_T, zit_F, false_implies, true_implies, zc_2])
  refine zLoop.up (μ 2 5).toNat (fun j ρ μ1 => ∃ w, ρ = [vr 2, vi f, vi t, vi m, vi (rsL f t m (tL j (fD μ))), vi j, w] ∧ zcat w = 1 ∧ tL j (fD μ1) = lsL f t m (tL j (fD μ)) ∧ (∀ i : Int, j ≤ i → μ1 6 i = μ 6 i) ∧ zfc [6] μ μ1) ⟨_, rfl, rfl, rfl, fun _ _ => rfl, zfc.rf⟩ ?_
  rintro j ρ μ1 hj ⟨w, rfl, hw, hk, hr, hf⟩
  have h2 : μ1 2 = μ 2 := hf 2 (by decide)
  have h4 : μ1 4 = μ 4 := hf 4 (by decide)
  have h5 : μ1 5 = μ 5 := hf 5 (by decide)
  have h7 : μ1 7 = μ 7 := hf 7 (by decide)
  have hrj := hr j (Int.le_refl _)
  (try simp only [zit_e, Bool.and_eq_true, Bool.or_eq_true, Bool.not_eq_true', Bool.and_eq_false_iff, Bool.or_eq_false_iff, Bool.not_eq_false', zbe, zdt, zdf, zb2_p, zbp_0, zbp_1, zbp_inj, zbp_01, Bool.true_eq_false, Bool.false_eq_true, true_and, and_true, Decidable.not_not, Classical.not_not, implies_true, List.nil_append, List.cons_append, List.append_assoc, Option.some.injEq, Sum.inl.injEq, zSw_c, zSw_n]); (try simp only [zit_e, Bool.and_eq_true, Bool.or_eq_true, Bool.not_eq_true', Bool.and_eq_false_iff, Bool.or_eq_false_iff, Bool.not_eq_false', zbe, zdt, zdf, zb2_p, zbp_0, zbp_1, zbp_inj, zbp_01, Bool.true_eq_false, Bool.false_eq_true, true_and, and_true, Decidable.not_not, Classical.not_not, implies_true, List.nil_append, List.cons_append, List.append_assoc, Option.some.injEq, Sum.inl.injEq, zSw_c, zSw_n, zc_2]); (try simp only [zi_cs, zi_c0, zii_cs, zii_c0, zl_cs, zl_c0, zll_cs, zll_c0, zr_cs, zr_c0, zrr_cs, zrr_c0, zxs_cs, zxs_c0, zxx_cs, zxx_c0, zfree_c0, zfree_c1, zfree_cs, zfree_cz, zlong_i, zlong_r, zlong_x, zset_0, zset_s, true_and, and_true, Option.some.injEq, Sum.inl.injEq, Sum.inr.injEq, zb2_p, zbp_0, zbp_1, zbp_inj, zbp_01, Nat.zero_add, Nat.reduceAdd, implies_true, List.nil_append, List.cons_append, List.append_assoc, Int.not_lt, Int.not_le, Decidable.not_not, Int.zero_add, Int.reduceLE, Int.reduceLT, Int.reduceEq, Int.reduceNe, Int.reduceAdd, Int.reduceSub, Int.reduceMul, Int.reduceNeg, Int.reduceToNat, Nat.reduceMul, Nat.reduceLT, Nat.reduceEqDiff, and_self, ite_true, ite_false, zx1, zx2, zRecv, List.length_cons, List.length_nil, ne_eq, not_true_eq_false, not_false_eq_true, true_or, or_true, or_false, false_or, and_false, false_and, zf01, zf10, reduceCtorEq, zSw_c, zSw_n, zm_r, zit_T, zit_F, false_implies, true_implies, zc_2])
  rw [h2, h4, h5, hrj]
  refine zif (fun c => ?_) (fun c => ?_)
  · have hb := rsL_in (f := f) (t := t) hm.1 h j (by omega)
    have hb2 : 1 ≤ μ 6 j ∧ μ 6 j ≤ 9999 := (h.2 j (by omega) (by omega)).2.2.2.1
    have hs := lsL_s (f := f) (t := t) (r := m) (n := j) (g := fD μ)
    have hs2 := rsL_s (f := f) (t := t) (r := m) (n := j) (g := fD μ)
    refine ⟨⟨by omega, fun _ => by omega⟩, ?_⟩
    refine zif (fun e => ?_) (fun e => ?_)
    · rw [if_pos e] at hs hs2
      have hs2 : rsL f t m (tL (j + 1) (fD μ)) = rsL f t m (tL j (fD μ)) - min (rsL f t m (tL j (fD μ))) (μ 6 j) := hs2
      refine ⟨by omega, by omega, by omega, by ((try simp only [zI_e]); (first | done | omega | skip)), by ((try simp only [zI_e]); (first | done | omega | skip)), by ((try simp only [zI_e]); (first | done | omega | skip)), znx (by omega) ⟨_, by rw [hs2]; rfl, rfl, ?_, ?_, hf.zm (by decide)⟩⟩
      · rw [hs, tL_succ, ← hk]
        congr 1
        · refine tL_congr (fun i h0 h1 => ?_)
          unfold fD
          simp only [zm_r, zit_T, zit_F, Nat.reduceEqDiff]
          (repeat (first | rw [zit_f (by omega)] | rw [zit_t (by omega)]))
        · unfold fD
          simp only [zm_r, zit_T, zit_F, Nat.reduceEqDiff, h4, h5, h7]
      · intro i hi
        rw [zit_f (by omega), hr i (by omega)]
    · rw [if_neg e] at hs hs2
      refine ⟨by ((try simp only [zI_e]); (first | done | omega | skip)), znx (by omega) ⟨w, by rw [hs2]; rfl, hw, ?_, fun i hi => hr i (by omega), hf⟩⟩
      rw [hs, tL_succ, ← hk]
      congr 1
      unfold fD
      rw [h4, h5, h7, hrj]
  · have ej : j = (μ 2 5).toNat := by omega
    subst ej
    refine zCw.use (q_Le_dropPaid (d := 3) (by decide) (by rw [h2]; exact hn)) hd (fun q μ2 e => ?_)
    obtain ⟨e0, e1, e2, e3, e4⟩ := e
    refine ⟨e0, ?_, by rw [h2] at e2; exact e2, by rw [e3, h2], (hf.tr e4).mo (by simp)⟩
    rw [e1]
    congr 1
    unfold dbD
    rw [h2]
    exact hk

