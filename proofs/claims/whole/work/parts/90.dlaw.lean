/-! the class is told a law -/
theorem fp_6_2 : zFp 6 2 0 := ⟨_, rfl, rfl, rfl, by decide⟩
theorem m_Re_read : Cond.instanceMethod y_Re_read.1 ∈ zTb ∧ Cond.selects y_Re_read.1.cls y_Re_read.1 y_Re_read.1 ∈ zTb ∧ Cond.initialized y_Re_read.1.cls ∈ zTb ∧ Cond.code y_Re_read.1 y_Re_read.2.1 y_Re_read.2.2.1 y_Re_read.2.2.2 ∈ zTb ∧ (y_Re_read.1.cls ≠ "java/lang/invoke/MethodHandle" ∧ y_Re_read.1.cls ≠ "java/lang/invoke/VarHandle" ∧ (parseMethodDescriptor y_Re_read.1.desc).map (fun d => d.parameters.length) = some 1) ∧ y_Re_read.2.2.1 ≤ 20 :=
  ⟨(zTb_in 743 (by decide +kernel) (by decide +kernel)), (zTb_in 744 (by decide +kernel) (by decide +kernel)), (zTb_in 143 (by decide +kernel) (by decide +kernel)), (zTb_in 745 (by decide +kernel) (by decide +kernel)), by decide +kernel, by decide +kernel⟩
theorem lv_D_204 : zLv "DebtDoors" 204 y_Re_read 1 6 := ⟨⟨(zTb_in 742 (by decide +kernel) (by decide +kernel)), m_Re_read.1, m_Re_read.2.1, m_Re_read.2.2⟩, _, rfl, rfl⟩
theorem ka_D_215 : Cond.methodLink "DebtDoors" 215 arraycopyName ∈ zTb := (zTb_in 900 (by decide +kernel) (by decide +kernel))
theorem fl_D_208 : zFl "DebtDoors" 208 6 1 := ⟨_, rfl, by decide, (zTb_in 326 (by decide +kernel) (by decide +kernel)), rfl⟩
theorem fl_D_211 : zFl "DebtDoors" 211 9 5 := ⟨_, rfl, by decide, (zTb_in 246 (by decide +kernel) (by decide +kernel)), rfl⟩
theorem fp_9_10 : zFp 9 10 0 := ⟨_, rfl, rfl, rfl, by decide⟩
def y_D_law : zMt := (⟨"DebtDoors", "law", "()I"⟩, prog_1_method_16_code, 3, some .int)
theorem d_D_law_0 : decode prog_1_method_16_code 0 = .ok (.aload_n 0, 1) := by decide +kernel
theorem d_D_law_1 : decode prog_1_method_16_code 1 = .ok (.getfield 12, 3) := by decide +kernel
theorem d_D_law_4 : decode prog_1_method_16_code 4 = .ok (.getfield 201, 3) := by decide +kernel
theorem d_D_law_7 : decode prog_1_method_16_code 7 = .ok (.bipush 6, 2) := by decide +kernel
theorem d_D_law_9 : decode prog_1_method_16_code 9 = .ok (.if_icmp .lt 18, 3) := by decide +kernel
theorem d_D_law_12 : decode prog_1_method_16_code 12 = .ok (.aload_n 0, 1) := by decide +kernel
theorem d_D_law_13 : decode prog_1_method_16_code 13 = .ok (.getfield 44, 3) := by decide +kernel
theorem d_D_law_16 : decode prog_1_method_16_code 16 = .ok (.iconst 0, 1) := by decide +kernel
theorem d_D_law_17 : decode prog_1_method_16_code 17 = .ok (.putfield 185, 3) := by decide +kernel
theorem d_D_law_20 : decode prog_1_method_16_code 20 = .ok (.aload_n 0, 1) := by decide +kernel
theorem d_D_law_21 : decode prog_1_method_16_code 21 = .ok (.bipush (-5), 2) := by decide +kernel
theorem d_D_law_23 : decode prog_1_method_16_code 23 = .ok (.invokevirtual 108, 3) := by decide +kernel
theorem d_D_law_26 : decode prog_1_method_16_code 26 = .ok (.ireturn, 1) := by decide +kernel
theorem d_D_law_27 : decode prog_1_method_16_code 27 = .ok (.aload_n 0, 1) := by decide +kernel
theorem d_D_law_28 : decode prog_1_method_16_code 28 = .ok (.getfield 44, 3) := by decide +kernel
theorem d_D_law_31 : decode prog_1_method_16_code 31 = .ok (.iconst 0, 1) := by decide +kernel
theorem d_D_law_32 : decode prog_1_method_16_code 32 = .ok (.invokevirtual 204, 3) := by decide +kernel
theorem d_D_law_35 : decode prog_1_method_16_code 35 = .ok (.istore_n 1, 1) := by decide +kernel
theorem d_D_law_36 : decode prog_1_method_16_code 36 = .ok (.aload_n 0, 1) := by decide +kernel
theorem d_D_law_37 : decode prog_1_method_16_code 37 = .ok (.getfield 44, 3) := by decide +kernel
theorem d_D_law_40 : decode prog_1_method_16_code 40 = .ok (.iconst 0, 1) := by decide +kernel
theorem d_D_law_41 : decode prog_1_method_16_code 41 = .ok (.putfield 185, 3) := by decide +kernel
theorem d_D_law_44 : decode prog_1_method_16_code 44 = .ok (.iload_n 1, 1) := by decide +kernel
theorem d_D_law_45 : decode prog_1_method_16_code 45 = .ok (.ifCond .ne 10, 3) := by decide +kernel
theorem d_D_law_48 : decode prog_1_method_16_code 48 = .ok (.aload_n 0, 1) := by decide +kernel
theorem d_D_law_49 : decode prog_1_method_16_code 49 = .ok (.bipush (-6), 2) := by decide +kernel
theorem d_D_law_51 : decode prog_1_method_16_code 51 = .ok (.invokevirtual 108, 3) := by decide +kernel
theorem d_D_law_54 : decode prog_1_method_16_code 54 = .ok (.ireturn, 1) := by decide +kernel
theorem d_D_law_55 : decode prog_1_method_16_code 55 = .ok (.aload_n 0, 1) := by decide +kernel
theorem d_D_law_56 : decode prog_1_method_16_code 56 = .ok (.getfield 12, 3) := by decide +kernel
theorem d_D_law_59 : decode prog_1_method_16_code 59 = .ok (.getfield 201, 3) := by decide +kernel
theorem d_D_law_62 : decode prog_1_method_16_code 62 = .ok (.istore_n 2, 1) := by decide +kernel
theorem d_D_law_63 : decode prog_1_method_16_code 63 = .ok (.aload_n 0, 1) := by decide +kernel
theorem d_D_law_64 : decode prog_1_method_16_code 64 = .ok (.getfield 44, 3) := by decide +kernel
theorem d_D_law_67 : decode prog_1_method_16_code 67 = .ok (.getfield 208, 3) := by decide +kernel
theorem d_D_law_70 : decode prog_1_method_16_code 70 = .ok (.iconst 0, 1) := by decide +kernel
theorem d_D_law_71 : decode prog_1_method_16_code 71 = .ok (.aload_n 0, 1) := by decide +kernel
theorem d_D_law_72 : decode prog_1_method_16_code 72 = .ok (.getfield 12, 3) := by decide +kernel
theorem d_D_law_75 : decode prog_1_method_16_code 75 = .ok (.getfield 211, 3) := by decide +kernel
theorem d_D_law_78 : decode prog_1_method_16_code 78 = .ok (.iload_n 2, 1) := by decide +kernel
theorem d_D_law_79 : decode prog_1_method_16_code 79 = .ok (.aaload, 1) := by decide +kernel
theorem d_D_law_80 : decode prog_1_method_16_code 80 = .ok (.iconst 0, 1) := by decide +kernel
theorem d_D_law_81 : decode prog_1_method_16_code 81 = .ok (.sipush 385, 3) := by decide +kernel
theorem d_D_law_84 : decode prog_1_method_16_code 84 = .ok (.invokestatic 215, 3) := by decide +kernel
theorem d_D_law_87 : decode prog_1_method_16_code 87 = .ok (.aload_n 0, 1) := by decide +kernel
theorem d_D_law_88 : decode prog_1_method_16_code 88 = .ok (.getfield 12, 3) := by decide +kernel
theorem d_D_law_91 : decode prog_1_method_16_code 91 = .ok (.iload_n 2, 1) := by decide +kernel
theorem d_D_law_92 : decode prog_1_method_16_code 92 = .ok (.iconst 1, 1) := by decide +kernel
theorem d_D_law_93 : decode prog_1_method_16_code 93 = .ok (.iadd, 1) := by decide +kernel
theorem d_D_law_94 : decode prog_1_method_16_code 94 = .ok (.putfield 201, 3) := by decide +kernel
theorem d_D_law_97 : decode prog_1_method_16_code 97 = .ok (.aload_n 0, 1) := by decide +kernel
theorem d_D_law_98 : decode prog_1_method_16_code 98 = .ok (.iload_n 2, 1) := by decide +kernel
theorem d_D_law_99 : decode prog_1_method_16_code 99 = .ok (.invokevirtual 130, 3) := by decide +kernel
theorem d_D_law_102 : decode prog_1_method_16_code 102 = .ok (.ireturn, 1) := by decide +kernel
def w_D_law {d : Nat} (hd : 3 ≤ d) := (show SS ("DebtDoors", prog_1_method_16_code, 3) (some .int) d 0 0 0 0 _ from (sS (p1 := 27) (sIf (pn := 27) (tt := 12) (xC (rNot (rJ2 (tgt := 27) j_lt (rF 10 fl_D_201 nk_9_10 (rFr fl_D_12 nk_11_0 (rAn 0 d_D_law_0 rfl) d_D_law_1) d_D_law_4 rfl) (rB d_D_law_7 rfl) d_D_law_9 (by decide)))) (sS (p1 := 20) (sP 2 fl_D_185 fp_6_2 nk_6_2 (rFr fl_D_44 nk_11_6 (rAn 0 d_D_law_12 rfl) d_D_law_13) (xE (rI d_D_law_16 rfl)) d_D_law_17 rfl) (sRi (xV lv_D_108 (xA (rAi (rAr rA0 (rAn 0 d_D_law_20 rfl)) (rB d_D_law_21 rfl))) (by decide) d_D_law_23) d_D_law_26 rfl))) (sS (p1 := 36) (sIn 1 (xV lv_D_204 (xA (rAi (rAr rA0 (rFr fl_D_44 nk_11_6 (rAn 0 d_D_law_27 rfl) d_D_law_28)) (rI d_D_law_31 rfl))) (by decide) d_D_law_32) d_D_law_35 rfl (by decide)) (sS (p1 := 44) (sP 2 fl_D_185 fp_6_2 nk_6_2 (rFr fl_D_44 nk_11_6 (rAn 0 d_D_law_36 rfl) d_D_law_37) (xE (rI d_D_law_40 rfl)) d_D_law_41 rfl) (sS (p1 := 55) (sIf (pn := 55) (tt := 48) (xC (rNot (rJ1 (tgt := 55) k_ne (rIn 1 d_D_law_44 rfl) d_D_law_45 (by decide)))) (sRi (xV lv_D_108 (xA (rAi (rAr rA0 (rAn 0 d_D_law_48 rfl)) (rB d_D_law_49 rfl))) (by decide) d_D_law_51) d_D_law_54 rfl)) (sS (p1 := 63) (sIn 2 (xE (rF 10 fl_D_201 nk_9_10 (rFr fl_D_12 nk_11_0 (rAn 0 d_D_law_55 rfl) d_D_law_56) d_D_law_59 rfl)) d_D_law_62 rfl (by decide)) (sS (p1 := 87) (sCp ka_D_215 (rFr fl_D_208 nk_6_1 (rFr fl_D_44 nk_11_6 (rAn 0 d_D_law_63 rfl) d_D_law_64) d_D_law_67) (rI d_D_law_70 rfl) (rAa (rFr fl_D_211 nk_9_5 (rFr fl_D_12 nk_11_0 (rAn 0 d_D_law_71 rfl) d_D_law_72) d_D_law_75) (rIn 2 d_D_law_78 rfl) d_D_law_79) (rI d_D_law_80 rfl) (rSi d_D_law_81 rfl) (Nat.le_trans (Nat.le_of_ble_eq_true rfl) hd) d_D_law_84) (sS (p1 := 97) (sP 10 fl_D_201 fp_9_10 nk_9_10 (rFr fl_D_12 nk_11_0 (rAn 0 d_D_law_87 rfl) d_D_law_88) (xE (r2 o_add (rIn 2 d_D_law_91 rfl) (rI d_D_law_92 rfl) d_D_law_93)) d_D_law_94 rfl) (sRi (xV lv_D_130 (xA (rAi (rAr rA0 (rAn 0 d_D_law_97 rfl)) (rIn 2 d_D_law_98 rfl))) (by decide) d_D_law_99) d_D_law_102 rfl)))))))))
theorem q_D_law {d : Nat} (hd : 53 ≤ d) {μ : zMem} {B : Int → Int} {n : Nat} (hB : okB B n) (h1 : μ 322 = B) (h2 : μ 321 2 = (n : Int)) (ht : 0 ≤ μ 1 10 ∧ μ 1 10 ≤ 6) (hr : (0 ≤ μ 354 5 ∧ μ 354 5 ≤ 1000000) ∧ 0 ≤ μ 354 6 ∧ μ 354 6 ≤ 1000000) : zSp d 0 0 y_D_law zT0 [vr 0] μ zT0 (fun r μ' => (μ 1 10 = 6 → r = some (vi (-5)) ∧ μ' = zm (zm (zm μ 321 2 0) 354 5 (μ 354 5 + 1)) 0 15 (-5)) ∧ (μ 1 10 ≠ 6 → (∀ t, pCls (cT B n) (fun t => decide (n ≤ ps B n t)) (pcO false (cT B n) (vT B n)) 12 0 0 85 = (t, none) → r = some (vi (-6)) ∧ μ' 0 = (zm μ 0 15 (-6)) 0 ∧ μ' 321 2 = 0 ∧ μ' 321 3 = (ps B n t : Int) ∧ μ' 354 = (zm μ 354 6 (μ 354 6 + 1)) 354 ∧ zfc [0, 321, 323, 354] μ μ') ∧ (∀ t a, pCls (cT B n) (fun t => decide (n ≤ ps B n t)) (pcO false (cT B n) (vT B n)) 12 0 0 85 = (t, some a) → r = some (vi (μ 1 10)) ∧ μ' 0 = (zm μ 0 15 0) 0 ∧ μ' 321 2 = 0 ∧ μ' 321 3 = -1 ∧ μ' 1 = (zm μ 1 10 (μ 1 10 + 1)) 1 ∧ (∃ κ : Int → Int, κ 0 = (a.1.length : Int) ∧ a.1.length ≤ 12 ∧ (∀ (j : Nat) (cl : Cls), a.1[j]? = some cl → Hd false κ j cl) ∧ Seg κ 85 a.2 ∧ ∀ i : Int, 0 ≤ i → i < 385 → μ' (29 + (μ 1 10).toNat) i = κ i) ∧ zfc [0, 1, 321, 323, 29 + (μ 1 10).toNat] μ μ'))) := by
  refine zSp.ss [vr 0, vx 0, vx 0] rfl (w_D_law (Nat.le_trans (by decide) hd)) rfl rfl ?_
  (try simp only [zit_e, Bool.and_eq_true, Bool.or_eq_true, Bool.not_eq_true', Bool.and_eq_false_iff, Bool.or_eq_false_iff, Bool.not_eq_false', zbe, zdt, zdf, zb2_p, zbp_0, zbp_1, zbp_inj, zbp_01, Bool.true_eq_false, Bool.false_eq_true, true_and, and_true, Decidable.not_not, Classical.not_not, implies_true, List.nil_append, List.cons_append, List.append_assoc, Option.some.injEq, Sum.inl.injEq, zSw_c, zSw_n]); (try simp only [zit_e, Bool.and_eq_true, Bool.or_eq_true, Bool.not_eq_true', Bool.and_eq_false_iff, Bool.or_eq_false_iff, Bool.not_eq_false', zbe, zdt, zdf, zb2_p, zbp_0, zbp_1, zbp_inj, zbp_01, Bool.true_eq_false, Bool.false_eq_true, true_and, and_true, Decidable.not_not, Classical.not_not, implies_true, List.nil_append, List.cons_append, List.append_assoc, Option.some.injEq, Sum.inl.injEq, zSw_c, zSw_n, zc_0, zc_1, zc_321]); (try simp only [zi_cs, zi_c0, zii_cs, zii_c0, zl_cs, zl_c0, zll_cs, zll_c0, zr_cs, zr_c0, zrr_cs, zrr_c0, zxs_cs, zxs_c0, zxx_cs, zxx_c0, zfree_c0, zfree_c1, zfree_cs, zfree_cz, zlong_i, zlong_r, zlong_x, zset_0, zset_s, true_and, and_true, Option.some.injEq, Sum.inl.injEq, Sum.inr.injEq, zb2_p, zbp_0, zbp_1, zbp_inj, zbp_01, Nat.zero_add, Nat.reduceAdd, implies_true, List.nil_append, List.cons_append, List.append_assoc, Int.not_lt, Int.not_le, Decidable.not_not, Int.zero_add, Int.reduceLE, Int.reduceLT, Int.reduceEq, Int.reduceNe, Int.reduceAdd, Int.reduceSub, Int.reduceMul, Int.reduceNeg, Int.reduceToNat, Nat.reduceMul, Nat.reduceLT, Nat.reduceEqDiff, and_self, ite_true, ite_false, zx1, zx2, zRecv, List.length_cons, List.length_nil, ne_eq, not_true_eq_false, not_false_eq_true, true_or, or_true, or_false, false_or, and_false, false_and, zf01, zf10, reduceCtorEq, zSw_c, zSw_n, zm_r, zit_T, zit_F, false_implies, true_implies, zc_0, zc_1, zc_321])
  refine zif (fun c => ?_) (fun c => ?_)
  · refine zCw.use (q_D_refuse (d := 2) (by decide) (by decide) (by rw [zm_off 354 (by decide)]; exact hr.1)) (by omega) (fun q μ1 e => ?_)
    obtain ⟨rfl, rfl⟩ := e
    refine ⟨_, rfl, fun _ => ⟨rfl, ?_⟩, fun q => by omega⟩
    rw [zm_off 354 (by decide)]
    rfl
  · refine zCw.use (q_Re_read (d := 50) (Nat.le_refl _) (o := false) (x := 0) (by decide) hB h1 h2) (by omega) (fun q μ1 e => ?_)
    have hb := e.1
    have hg := e.2
    clear e
    generalize pCls (cT B n) (fun t => decide (n ≤ ps B n t)) (pcO false (cT B n) (vT B n)) 12 0 0 85 = R at *
    rcases R with ⟨t, _ | a⟩
    · obtain ⟨rfl, f3, f1, f2⟩ := hb t rfl
      refine ⟨_, rfl, ?_⟩
      rw [if_pos rfl]
      have k354 : μ1 354 = μ 354 := f1 354 (by decide)
      have k0 : μ1 0 = μ 0 := f1 0 (by decide)
      refine zCw.use (q_D_refuse (d := 2) (by decide) (by decide) (by rw [zm_off 354 (by decide), k354]; exact hr.2)) (by omega) (fun q μ2 e => ?_)
      obtain ⟨rfl, rfl⟩ := e
      refine ⟨_, rfl, fun q => by omega, fun _ => ⟨fun t1 q => ?_, fun t1 a q => (by cases q)⟩⟩
      cases q
      refine ⟨rfl, ?_, ?_, ?_, ?_, (((f1.mo (b := [0, 321, 323, 354]) (by simp)).zm (by decide)).zm (by decide)).zm (by decide)⟩
      · funext i
        simp only [zm_r, zit_T, zit_F, Nat.reduceEqDiff, k0]
      · rw [zm_off 321 (by decide), zm_off 321 (by decide), zm_s]
      · rw [zm_off 321 (by decide), zm_off 321 (by decide), zm_j (by decide), f3]
      · funext i
        simp only [zm_r, zit_T, zit_F, Nat.reduceEqDiff, k354]
        rfl
    · obtain ⟨rfl, g3, g0, gH, gS, gl, f1, f2⟩ := hg t a rfl
      refine ⟨_, rfl, ?_⟩
      have k1 : μ1 1 = μ 1 := f1 1 (by decide)
      have k0 : μ1 0 = μ 0 := f1 0 (by decide)
      have hf : 0 ≤ μ 1 10 ∧ μ 1 10 ≤ 5 := by omega
      have hk := zkl28 hf
      rw [if_neg (by decide), k1, zpa28 hf]
      refine ⟨by omega, hk.1, by rw [hk.2.1]; decide, zI_s (by omega) (by omega), zCw.use (q_D_accept (d := 1) (Nat.le_refl _)) (by omega) (fun q μ2 e => ?_)⟩
      obtain ⟨rfl, rfl⟩ := e
      generalize hP : 29 + (μ 1 10).toNat = P at *
      have hP2 : P ≠ 0 ∧ P ≠ 1 ∧ P ≠ 321 ∧ P ≠ 323 := by omega
      refine ⟨_, rfl, fun q => by omega, fun _ => ⟨fun t1 q => (by cases q), fun t1 a1 q => ?_⟩⟩
      cases q
      refine ⟨rfl, ?_, ?_, ?_, ?_, ⟨μ1 323, g0, gl, gH, gS, fun i h0 h1 => ?_⟩, ?_⟩
      · funext i
        simp only [zm_r, zcp_r, zit_T, zit_F, Nat.reduceEqDiff, k0]
        rw [zit_f (fun q : 0 = P ∧ _ => hP2.1 q.1.symm)]
      · rw [zm_off 321 (by decide), zm_off 321 (by decide), zcp_r, zit_f (fun q => hP2.2.2.1 q.1.symm), zm_s]
      · rw [zm_off 321 (by decide), zm_off 321 (by decide), zcp_r, zit_f (fun q => hP2.2.2.1 q.1.symm), zm_j (by decide), g3]
      · funext i
        simp only [zm_r, zcp_r, zit_T, zit_F, Nat.reduceEqDiff, k1]
        rw [zit_f (fun q : 1 = P ∧ _ => hP2.2.1 q.1.symm)]
      · rw [zm_off P hP2.1, zm_off P hP2.2.1, zcp_r, zit_t ⟨rfl, by omega, by omega⟩, zm_off 323 (by decide), show (0 : Int) + (i - 0) = i by omega]
      · exact (((((f1.mo (b := [0, 1, 321, 323, P]) (by simp)).zm (by simp)).cp (by simp)).zm (by simp)).zm (by simp))

