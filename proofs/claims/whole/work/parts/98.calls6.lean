/-! put, debt -/
theorem JJ.eqD {k : Int} {a a' b : zMem} (e : a' = a) (h : JJ k a b) : JJ k a' b := e ▸ h
noncomputable def putC (n p w x : Int) : Int := zit (¬ (w = 0 ∧ (0 ≤ x ∧ x ≤ 9999) ∨ w = 1 ∧ (1 ≤ x ∧ x ≤ 3) ∨ w = 2 ∧ (0 ≤ x ∧ x ≤ 99))) (-1) (zit (¬ (0 ≤ p ∧ p < n)) (-2) 0)
theorem putC_0 {n p w x : Int} (h : 0 ≤ putC n p w x) : (w = 0 ∧ (0 ≤ x ∧ x ≤ 9999) ∨ w = 1 ∧ (1 ≤ x ∧ x ≤ 3) ∨ w = 2 ∧ (0 ≤ x ∧ x ≤ 99)) ∧ 0 ≤ p ∧ p < n := by
  unfold putC zit at h
  split at h
  · omega
  · split at h
    · omega
    · next h1 h2 => exact ⟨Classical.not_not.mp h1, Classical.not_not.mp h2⟩
def ptC (w : Int) : Nat := if w = 0 then 3 else if w = 1 then 8 else 9
def ptM (w p : Int) : Int := if w = 0 then p else 73 + 2 * p + w - 1
theorem m_D_canPut : Cond.static y_D_canPut.1 ∈ zTb ∧ Cond.initialized y_D_canPut.1.cls ∈ zTb ∧ Cond.code y_D_canPut.1 y_D_canPut.2.1 y_D_canPut.2.2.1 y_D_canPut.2.2.2 ∈ zTb ∧ (y_D_canPut.1.cls ≠ "java/lang/invoke/MethodHandle" ∧ y_D_canPut.1.cls ≠ "java/lang/invoke/VarHandle" ∧ (parseMethodDescriptor y_D_canPut.1.desc).map (fun d => d.parameters.length) = some 2) ∧ y_D_canPut.2.2.1 ≤ 20 :=
  ⟨(zTb_in 619 (by decide +kernel) (by decide +kernel)), (zTb_in 139 (by decide +kernel) (by decide +kernel)), (zTb_in 620 (by decide +kernel) (by decide +kernel)), by decide +kernel, by decide +kernel⟩
theorem ls_D_133 : zLs "DebtDoors" 133 y_D_canPut 2 := Or.inl ⟨(zTb_in 618 (by decide +kernel) (by decide +kernel)), m_D_canPut⟩
def y_D_put : zMt := (⟨"DebtDoors", "put", "(III)I"⟩, prog_1_method_3_code, 5, some .int)
theorem d_D_put_0 : decode prog_1_method_3_code 0 = .ok (.iload_n 2, 1) := by decide +kernel
theorem d_D_put_1 : decode prog_1_method_3_code 1 = .ok (.iload_n 3, 1) := by decide +kernel
theorem d_D_put_2 : decode prog_1_method_3_code 2 = .ok (.invokestatic 133, 3) := by decide +kernel
theorem d_D_put_5 : decode prog_1_method_3_code 5 = .ok (.ifCond .ne 9, 3) := by decide +kernel
theorem d_D_put_8 : decode prog_1_method_3_code 8 = .ok (.aload_n 0, 1) := by decide +kernel
theorem d_D_put_9 : decode prog_1_method_3_code 9 = .ok (.iconst (-1), 1) := by decide +kernel
theorem d_D_put_10 : decode prog_1_method_3_code 10 = .ok (.invokevirtual 108, 3) := by decide +kernel
theorem d_D_put_13 : decode prog_1_method_3_code 13 = .ok (.ireturn, 1) := by decide +kernel
theorem d_D_put_14 : decode prog_1_method_3_code 14 = .ok (.aload_n 0, 1) := by decide +kernel
theorem d_D_put_15 : decode prog_1_method_3_code 15 = .ok (.getfield 12, 3) := by decide +kernel
theorem d_D_put_18 : decode prog_1_method_3_code 18 = .ok (.iload_n 1, 1) := by decide +kernel
theorem d_D_put_19 : decode prog_1_method_3_code 19 = .ok (.invokevirtual 137, 3) := by decide +kernel
theorem d_D_put_22 : decode prog_1_method_3_code 22 = .ok (.ifCond .ne 10, 3) := by decide +kernel
theorem d_D_put_25 : decode prog_1_method_3_code 25 = .ok (.aload_n 0, 1) := by decide +kernel
theorem d_D_put_26 : decode prog_1_method_3_code 26 = .ok (.bipush (-2), 2) := by decide +kernel
theorem d_D_put_28 : decode prog_1_method_3_code 28 = .ok (.invokevirtual 108, 3) := by decide +kernel
theorem d_D_put_31 : decode prog_1_method_3_code 31 = .ok (.ireturn, 1) := by decide +kernel
theorem d_D_put_32 : decode prog_1_method_3_code 32 = .ok (.aload_n 0, 1) := by decide +kernel
theorem d_D_put_33 : decode prog_1_method_3_code 33 = .ok (.getfield 12, 3) := by decide +kernel
theorem d_D_put_36 : decode prog_1_method_3_code 36 = .ok (.iload_n 1, 1) := by decide +kernel
theorem d_D_put_37 : decode prog_1_method_3_code 37 = .ok (.iload_n 2, 1) := by decide +kernel
theorem d_D_put_38 : decode prog_1_method_3_code 38 = .ok (.invokevirtual 141, 3) := by decide +kernel
theorem d_D_put_41 : decode prog_1_method_3_code 41 = .ok (.istore 4, 2) := by decide +kernel
theorem d_D_put_43 : decode prog_1_method_3_code 43 = .ok (.iload_n 2, 1) := by decide +kernel
theorem d_D_put_44 : decode prog_1_method_3_code 44 = .ok (.ifCond .ne 19, 3) := by decide +kernel
theorem d_D_put_47 : decode prog_1_method_3_code 47 = .ok (.aload_n 0, 1) := by decide +kernel
theorem d_D_put_48 : decode prog_1_method_3_code 48 = .ok (.getfield 12, 3) := by decide +kernel
theorem d_D_put_51 : decode prog_1_method_3_code 51 = .ok (.getfield 115, 3) := by decide +kernel
theorem d_D_put_54 : decode prog_1_method_3_code 54 = .ok (.getfield 118, 3) := by decide +kernel
theorem d_D_put_57 : decode prog_1_method_3_code 57 = .ok (.iload_n 1, 1) := by decide +kernel
theorem d_D_put_58 : decode prog_1_method_3_code 58 = .ok (.iload_n 3, 1) := by decide +kernel
theorem d_D_put_59 : decode prog_1_method_3_code 59 = .ok (.iastore, 1) := by decide +kernel
theorem d_D_put_60 : decode prog_1_method_3_code 60 = .ok (.goto 31, 3) := by decide +kernel
theorem d_D_put_63 : decode prog_1_method_3_code 63 = .ok (.iload_n 2, 1) := by decide +kernel
theorem d_D_put_64 : decode prog_1_method_3_code 64 = .ok (.iconst 1, 1) := by decide +kernel
theorem d_D_put_65 : decode prog_1_method_3_code 65 = .ok (.if_icmp .ne 16, 3) := by decide +kernel
theorem d_D_put_68 : decode prog_1_method_3_code 68 = .ok (.aload_n 0, 1) := by decide +kernel
theorem d_D_put_69 : decode prog_1_method_3_code 69 = .ok (.getfield 12, 3) := by decide +kernel
theorem d_D_put_72 : decode prog_1_method_3_code 72 = .ok (.getfield 121, 3) := by decide +kernel
theorem d_D_put_75 : decode prog_1_method_3_code 75 = .ok (.iload_n 1, 1) := by decide +kernel
theorem d_D_put_76 : decode prog_1_method_3_code 76 = .ok (.iload_n 3, 1) := by decide +kernel
theorem d_D_put_77 : decode prog_1_method_3_code 77 = .ok (.iastore, 1) := by decide +kernel
theorem d_D_put_78 : decode prog_1_method_3_code 78 = .ok (.goto 13, 3) := by decide +kernel
theorem d_D_put_81 : decode prog_1_method_3_code 81 = .ok (.aload_n 0, 1) := by decide +kernel
theorem d_D_put_82 : decode prog_1_method_3_code 82 = .ok (.getfield 12, 3) := by decide +kernel
theorem d_D_put_85 : decode prog_1_method_3_code 85 = .ok (.getfield 124, 3) := by decide +kernel
theorem d_D_put_88 : decode prog_1_method_3_code 88 = .ok (.iload_n 1, 1) := by decide +kernel
theorem d_D_put_89 : decode prog_1_method_3_code 89 = .ok (.iload_n 3, 1) := by decide +kernel
theorem d_D_put_90 : decode prog_1_method_3_code 90 = .ok (.iastore, 1) := by decide +kernel
theorem d_D_put_91 : decode prog_1_method_3_code 91 = .ok (.aload_n 0, 1) := by decide +kernel
theorem d_D_put_92 : decode prog_1_method_3_code 92 = .ok (.getfield 34, 3) := by decide +kernel
theorem d_D_put_95 : decode prog_1_method_3_code 95 = .ok (.invokevirtual 127, 3) := by decide +kernel
theorem d_D_put_98 : decode prog_1_method_3_code 98 = .ok (.aload_n 0, 1) := by decide +kernel
theorem d_D_put_99 : decode prog_1_method_3_code 99 = .ok (.iload 4, 2) := by decide +kernel
theorem d_D_put_101 : decode prog_1_method_3_code 101 = .ok (.invokevirtual 130, 3) := by decide +kernel
theorem d_D_put_104 : decode prog_1_method_3_code 104 = .ok (.ireturn, 1) := by decide +kernel
def w_D_put {d : Nat} (hd : 3 ≤ d) := (show SS ("DebtDoors", prog_1_method_3_code, 5) (some .int) d 0 0 0 0 _ from (sS (p1 := 14) (sIf (pn := 14) (tt := 8) (xC (rNot (rJ1 (tgt := 14) k_ne (rS p_D_canPut (Nat.le_trans (Nat.le_of_ble_eq_true rfl) hd) ls_D_133 (rAi (rAi rA0 (rIn 2 d_D_put_0 rfl)) (rIn 3 d_D_put_1 rfl)) (by decide) d_D_put_2) d_D_put_5 (by decide)))) (sRi (xV lv_D_108 (xA (rAi (rAr rA0 (rAn 0 d_D_put_8 rfl)) (rI d_D_put_9 rfl))) (by decide) d_D_put_10) d_D_put_13 rfl)) (sS (p1 := 32) (sIf (pn := 32) (tt := 25) (xC (rNot (rJ1 (tgt := 32) k_ne (rV p_To_has (Nat.le_trans (Nat.le_of_ble_eq_true rfl) hd) lv_D_137 (rAi (rAr rA0 (rFr fl_D_12 nk_11_0 (rAn 0 d_D_put_14 rfl) d_D_put_15)) (rIn 1 d_D_put_18 rfl)) (by decide) d_D_put_19) d_D_put_22 (by decide)))) (sRi (xV lv_D_108 (xA (rAi (rAr rA0 (rAn 0 d_D_put_25 rfl)) (rB d_D_put_26 rfl))) (by decide) d_D_put_28) d_D_put_31 rfl)) (sS (p1 := 43) (sI (xE (rV p_To_trait (Nat.le_trans (Nat.le_of_ble_eq_true rfl) hd) lv_D_141 (rAi (rAi (rAr rA0 (rFr fl_D_12 nk_11_0 (rAn 0 d_D_put_32 rfl) d_D_put_33)) (rIn 1 d_D_put_36 rfl)) (rIn 2 d_D_put_37 rfl)) (by decide) d_D_put_38)) d_D_put_41 (by decide)) (sS (p1 := 91) (sIe (pn := 91) (tt := 47) (ff := 63) (xC (rNot (rJ1 (tgt := 63) k_ne (rIn 2 d_D_put_43 rfl) d_D_put_44 (by decide)))) (sGo (pn := 91) (sAs (rFr fl_D_118 nk_1_0 (rFr fl_D_115 nk_9_0 (rFr fl_D_12 nk_11_0 (rAn 0 d_D_put_47 rfl) d_D_put_48) d_D_put_51) d_D_put_54) (rIn 1 d_D_put_57 rfl) (xE (rIn 3 d_D_put_58 rfl)) d_D_put_59) d_D_put_60 (by decide)) (sIe (pn := 91) (tt := 68) (ff := 81) (xC (rNot (rJ2 (tgt := 81) j_ne (rIn 2 d_D_put_63 rfl) (rI d_D_put_64 rfl) d_D_put_65 (by decide)))) (sGo (pn := 91) (sAs (rFr fl_D_121 nk_9_1 (rFr fl_D_12 nk_11_0 (rAn 0 d_D_put_68 rfl) d_D_put_69) d_D_put_72) (rIn 1 d_D_put_75 rfl) (xE (rIn 3 d_D_put_76 rfl)) d_D_put_77) d_D_put_78 (by decide)) (sAs (rFr fl_D_124 nk_9_2 (rFr fl_D_12 nk_11_0 (rAn 0 d_D_put_81 rfl) d_D_put_82) d_D_put_85) (rIn 1 d_D_put_88 rfl) (xE (rIn 3 d_D_put_89 rfl)) d_D_put_90))) (sS (p1 := 98) (sV (xVv lv_D_127 (xA (rAr rA0 (rFr fl_D_34 nk_11_4 (rAn 0 d_D_put_91 rfl) d_D_put_92))) (by decide) d_D_put_95)) (sRi (xV lv_D_130 (xA (rAi (rAr rA0 (rAn 0 d_D_put_98 rfl)) (rIl d_D_put_99))) (by decide) d_D_put_101) d_D_put_104 rfl)))))))
def y_M_put : zMt := (⟨"DebtDoorsModel", "put", "(III)I"⟩, prog_14_method_22_code, 5, some .int)
theorem d_M_put_0 : decode prog_14_method_22_code 0 = .ok (.iload_n 2, 1) := by decide +kernel
theorem d_M_put_1 : decode prog_14_method_22_code 1 = .ok (.iload_n 3, 1) := by decide +kernel
theorem d_M_put_2 : decode prog_14_method_22_code 2 = .ok (.invokestatic 144, 3) := by decide +kernel
theorem d_M_put_5 : decode prog_14_method_22_code 5 = .ok (.ifCond .ne 9, 3) := by decide +kernel
theorem d_M_put_8 : decode prog_14_method_22_code 8 = .ok (.aload_n 0, 1) := by decide +kernel
theorem d_M_put_9 : decode prog_14_method_22_code 9 = .ok (.iconst (-1), 1) := by decide +kernel
theorem d_M_put_10 : decode prog_14_method_22_code 10 = .ok (.invokevirtual 127, 3) := by decide +kernel
theorem d_M_put_13 : decode prog_14_method_22_code 13 = .ok (.ireturn, 1) := by decide +kernel
theorem d_M_put_14 : decode prog_14_method_22_code 14 = .ok (.aload_n 0, 1) := by decide +kernel
theorem d_M_put_15 : decode prog_14_method_22_code 15 = .ok (.iload_n 1, 1) := by decide +kernel
theorem d_M_put_16 : decode prog_14_method_22_code 16 = .ok (.invokevirtual 152, 3) := by decide +kernel
theorem d_M_put_19 : decode prog_14_method_22_code 19 = .ok (.ifCond .ne 10, 3) := by decide +kernel
theorem d_M_put_22 : decode prog_14_method_22_code 22 = .ok (.aload_n 0, 1) := by decide +kernel
theorem d_M_put_23 : decode prog_14_method_22_code 23 = .ok (.bipush (-2), 2) := by decide +kernel
theorem d_M_put_25 : decode prog_14_method_22_code 25 = .ok (.invokevirtual 127, 3) := by decide +kernel
theorem d_M_put_28 : decode prog_14_method_22_code 28 = .ok (.ireturn, 1) := by decide +kernel
theorem d_M_put_29 : decode prog_14_method_22_code 29 = .ok (.aload_n 0, 1) := by decide +kernel
theorem d_M_put_30 : decode prog_14_method_22_code 30 = .ok (.getfield 24, 3) := by decide +kernel
theorem d_M_put_33 : decode prog_14_method_22_code 33 = .ok (.iload_n 1, 1) := by decide +kernel
theorem d_M_put_34 : decode prog_14_method_22_code 34 = .ok (.iload_n 2, 1) := by decide +kernel
theorem d_M_put_35 : decode prog_14_method_22_code 35 = .ok (.invokestatic 148, 3) := by decide +kernel
theorem d_M_put_38 : decode prog_14_method_22_code 38 = .ok (.iaload, 1) := by decide +kernel
theorem d_M_put_39 : decode prog_14_method_22_code 39 = .ok (.istore 4, 2) := by decide +kernel
theorem d_M_put_41 : decode prog_14_method_22_code 41 = .ok (.aload_n 0, 1) := by decide +kernel
theorem d_M_put_42 : decode prog_14_method_22_code 42 = .ok (.getfield 24, 3) := by decide +kernel
theorem d_M_put_45 : decode prog_14_method_22_code 45 = .ok (.iload_n 1, 1) := by decide +kernel
theorem d_M_put_46 : decode prog_14_method_22_code 46 = .ok (.iload_n 2, 1) := by decide +kernel
theorem d_M_put_47 : decode prog_14_method_22_code 47 = .ok (.invokestatic 148, 3) := by decide +kernel
theorem d_M_put_50 : decode prog_14_method_22_code 50 = .ok (.iload_n 3, 1) := by decide +kernel
theorem d_M_put_51 : decode prog_14_method_22_code 51 = .ok (.iastore, 1) := by decide +kernel
theorem d_M_put_52 : decode prog_14_method_22_code 52 = .ok (.aload_n 0, 1) := by decide +kernel
theorem d_M_put_53 : decode prog_14_method_22_code 53 = .ok (.iload 4, 2) := by decide +kernel
theorem d_M_put_55 : decode prog_14_method_22_code 55 = .ok (.invokevirtual 130, 3) := by decide +kernel
theorem d_M_put_58 : decode prog_14_method_22_code 58 = .ok (.ireturn, 1) := by decide +kernel
def w_M_put {d : Nat} (hd : 4 ≤ d) := (show SS ("DebtDoorsModel", prog_14_method_22_code, 5) (some .int) d 0 0 0 0 _ from (sS (p1 := 14) (sIf (pn := 14) (tt := 8) (xC (rNot (rJ1 (tgt := 14) k_ne (rS p_M_isFact (Nat.le_trans (Nat.le_of_ble_eq_true rfl) hd) ls_M_144 (rAi (rAi rA0 (rIn 2 d_M_put_0 rfl)) (rIn 3 d_M_put_1 rfl)) (by decide) d_M_put_2) d_M_put_5 (by decide)))) (sRi (xV lv_M_127 (xA (rAi (rAr rA0 (rAn 0 d_M_put_8 rfl)) (rI d_M_put_9 rfl))) (by decide) d_M_put_10) d_M_put_13 rfl)) (sS (p1 := 29) (sIf (pn := 29) (tt := 22) (xC (rNot (rJ1 (tgt := 29) k_ne (rV p_M_isPerson (Nat.le_trans (Nat.le_of_ble_eq_true rfl) hd) lv_M_152 (rAi (rAr rA0 (rAn 0 d_M_put_14 rfl)) (rIn 1 d_M_put_15 rfl)) (by decide) d_M_put_16) d_M_put_19 (by decide)))) (sRi (xV lv_M_127 (xA (rAi (rAr rA0 (rAn 0 d_M_put_22 rfl)) (rB d_M_put_23 rfl))) (by decide) d_M_put_25) d_M_put_28 rfl)) (sS (p1 := 41) (sI (xE (rIa (rFr fl_M_24 nk_12_2 (rAn 0 d_M_put_29 rfl) d_M_put_30) (rS p_M_placeOf (Nat.le_trans (Nat.le_of_ble_eq_true rfl) hd) ls_M_148 (rAi (rAi rA0 (rIn 1 d_M_put_33 rfl)) (rIn 2 d_M_put_34 rfl)) (by decide) d_M_put_35) d_M_put_38)) d_M_put_39 (by decide)) (sS (p1 := 52) (sAs (rFr fl_M_24 nk_12_2 (rAn 0 d_M_put_41 rfl) d_M_put_42) (rS p_M_placeOf (Nat.le_trans (Nat.le_of_ble_eq_true rfl) hd) ls_M_148 (rAi (rAi rA0 (rIn 1 d_M_put_45 rfl)) (rIn 2 d_M_put_46 rfl)) (by decide) d_M_put_47) (xE (rIn 3 d_M_put_50 rfl)) d_M_put_51) (sRi (xV lv_M_130 (xA (rAi (rAr rA0 (rAn 0 d_M_put_52 rfl)) (rIl d_M_put_53))) (by decide) d_M_put_55) d_M_put_58 rfl))))))
theorem LC_put {p w x : Int} : LC y_D_put y_M_put [vi p, vi w, vi x] := LC.mk (fun k μ h0 h1 hJ => by
  obtain ⟨a1, a2, a3, a4, a5, a6, a7, a8, a9, a10⟩ := hJ.1
  have hn := a1.1
  refine ⟨putC (μ 1 6) p w x, fun v μ1 => v = μ (ptC w) p ∧ μ1 = zm (zm (zm μ (ptC w) p x) 111 3 0) 0 15 0, fun μ1 v μ2 => v = μ1 357 (ptM w p) ∧ μ2 = zm (zm (zm μ1 357 (ptM w p) x) 355 28 0) 355 0 0, ?_, ?_, ?_, ?_⟩
  · unfold putC zit
    repeat' split
    all_goals omega
  · refine zCw.use (zSp.ss [vr 0, vi p, vi w, vi x, vx 0] rfl (w_D_put (d := 100) (by decide)) rfl rfl ?_) (by decide) (fun q μ' e => e)
    (try simp only [zit_e, Bool.and_eq_true, Bool.or_eq_true, Bool.not_eq_true', Bool.and_eq_false_iff, Bool.or_eq_false_iff, Bool.not_eq_false', zbe, zdt, zdf, zb2_p, zbp_0, zbp_1, zbp_inj, zbp_01, Bool.true_eq_false, Bool.false_eq_true, true_and, and_true, Decidable.not_not, Classical.not_not, implies_true, List.nil_append, List.cons_append, List.append_assoc, Option.some.injEq, Sum.inl.injEq, zSw_c, zSw_n]); (try simp only [zit_e, Bool.and_eq_true, Bool.or_eq_true, Bool.not_eq_true', Bool.and_eq_false_iff, Bool.or_eq_false_iff, Bool.not_eq_false', zbe, zdt, zdf, zb2_p, zbp_0, zbp_1, zbp_inj, zbp_01, Bool.true_eq_false, Bool.false_eq_true, true_and, and_true, Decidable.not_not, Classical.not_not, implies_true, List.nil_append, List.cons_append, List.append_assoc, Option.some.injEq, Sum.inl.injEq, zSw_c, zSw_n, zc_0, zc_1, zc_2, zc_111, f_D_canPut, g_D_canPut, f_To_has, g_To_has, f_To_trait, g_To_trait]); (try simp only [zi_cs, zi_c0, zii_cs, zii_c0, zl_cs, zl_c0, zll_cs, zll_c0, zr_cs, zr_c0, zrr_cs, zrr_c0, zxs_cs, zxs_c0, zxx_cs, zxx_c0, zfree_c0, zfree_c1, zfree_cs, zfree_cz, zlong_i, zlong_r, zlong_x, zset_0, zset_s, true_and, and_true, Option.some.injEq, Sum.inl.injEq, Sum.inr.injEq, zb2_p, zbp_0, zbp_1, zbp_inj, zbp_01, Nat.zero_add, Nat.reduceAdd, implies_true, List.nil_append, List.cons_append, List.append_assoc, Int.not_lt, Int.not_le, Decidable.not_not, Int.zero_add, Int.reduceLE, Int.reduceLT, Int.reduceEq, Int.reduceNe, Int.reduceAdd, Int.reduceSub, Int.reduceMul, Int.reduceNeg, Int.reduceToNat, Nat.reduceMul, Nat.reduceLT, Nat.reduceEqDiff, and_self, ite_true, ite_false, zx1, zx2, zRecv, List.length_cons, List.length_nil, ne_eq, not_true_eq_false, not_false_eq_true, true_or, or_true, or_false, false_or, and_false, false_and, zf01, zf10, reduceCtorEq, zSw_c, zSw_n, zm_r, zit_T, zit_F, false_implies, true_implies, zc_0, zc_1, zc_2, zc_111, f_D_canPut, g_D_canPut, f_To_has, g_To_has, f_To_trait, g_To_trait])
    refine zif (fun c1 => rfD_w (by omega) (by decide) (hJ.rD h0 h1) ⟨_, rfl, OD.no (zit_t c1) (by decide) PJc.rf⟩) (fun c1 => ?_)
    refine zif (fun c2 => rfD_w (by omega) (by decide) (hJ.rD h0 h1) ⟨_, rfl, OD.no ((zit_f c1).trans (zit_t (by omega))) (by decide) PJc.rf⟩) (fun c2 => ?_)
    have e : putC (μ 1 6) p w x = 0 := (zit_f c1).trans (zit_f (by omega))
    have c1 := Classical.not_not.mp c1
    rcases (show w = 0 ∨ w = 1 ∨ w = 2 by omega) with rfl | rfl | rfl
    all_goals
      (try simp only [zit_e, Bool.and_eq_true, Bool.or_eq_true, Bool.not_eq_true', Bool.and_eq_false_iff, Bool.or_eq_false_iff, Bool.not_eq_false', zbe, zdt, zdf, zb2_p, zbp_0, zbp_1, zbp_inj, zbp_01, Bool.true_eq_false, Bool.false_eq_true, true_and, and_true, Decidable.not_not, Classical.not_not, implies_true, List.nil_append, List.cons_append, List.append_assoc, Option.some.injEq, Sum.inl.injEq, zSw_c, zSw_n]); (try simp only [zit_e, Bool.and_eq_true, Bool.or_eq_true, Bool.not_eq_true', Bool.and_eq_false_iff, Bool.or_eq_false_iff, Bool.not_eq_false', zbe, zdt, zdf, zb2_p, zbp_0, zbp_1, zbp_inj, zbp_01, Bool.true_eq_false, Bool.false_eq_true, true_and, and_true, Decidable.not_not, Classical.not_not, implies_true, List.nil_append, List.cons_append, List.append_assoc, Option.some.injEq, Sum.inl.injEq, zSw_c, zSw_n, zc_0, zc_1, zc_2, zc_111]); (try simp only [zi_cs, zi_c0, zii_cs, zii_c0, zl_cs, zl_c0, zll_cs, zll_c0, zr_cs, zr_c0, zrr_cs, zrr_c0, zxs_cs, zxs_c0, zxx_cs, zxx_c0, zfree_c0, zfree_c1, zfree_cs, zfree_cz, zlong_i, zlong_r, zlong_x, zset_0, zset_s, true_and, and_true, Option.some.injEq, Sum.inl.injEq, Sum.inr.injEq, zb2_p, zbp_0, zbp_1, zbp_inj, zbp_01, Nat.zero_add, Nat.reduceAdd, implies_true, List.nil_append, List.cons_append, List.append_assoc, Int.not_lt, Int.not_le, Decidable.not_not, Int.zero_add, Int.reduceLE, Int.reduceLT, Int.reduceEq, Int.reduceNe, Int.reduceAdd, Int.reduceSub, Int.reduceMul, Int.reduceNeg, Int.reduceToNat, Nat.reduceMul, Nat.reduceLT, Nat.reduceEqDiff, and_self, ite_true, ite_false, zx1, zx2, zRecv, List.length_cons, List.length_nil, ne_eq, not_true_eq_false, not_false_eq_true, true_or, or_true, or_false, false_or, and_false, false_and, zf01, zf10, reduceCtorEq, zSw_c, zSw_n, zm_r, zit_T, zit_F, false_implies, true_implies, zc_0, zc_1, zc_2, zc_111])
      refine ⟨by omega, by omega, by omega, fgD_w (by omega) ⟨rfl, acD_w (by omega) ⟨_, rfl, OD.yes (by omega) (by ((repeat refine HM.sm ?_ (by omega)); exact HM.rf)) ⟨rfl, rfl⟩⟩⟩⟩
  · intro μ1 hm
    have hr := hJ.rM h0 h1 hm
    have m7 := hm 357 (by decide)
    refine zCw.use (zSp.ss [vr 355, vi p, vi w, vi x, vx 0] rfl (w_M_put (d := 100) (by decide)) rfl rfl ?_) (by decide) (fun q μ' e => e)
    (try simp only [zit_e, Bool.and_eq_true, Bool.or_eq_true, Bool.not_eq_true', Bool.and_eq_false_iff, Bool.or_eq_false_iff, Bool.not_eq_false', zbe, zdt, zdf, zb2_p, zbp_0, zbp_1, zbp_inj, zbp_01, Bool.true_eq_false, Bool.false_eq_true, true_and, and_true, Decidable.not_not, Classical.not_not, implies_true, List.nil_append, List.cons_append, List.append_assoc, Option.some.injEq, Sum.inl.injEq, zSw_c, zSw_n]); (try simp only [zit_e, Bool.and_eq_true, Bool.or_eq_true, Bool.not_eq_true', Bool.and_eq_false_iff, Bool.or_eq_false_iff, Bool.not_eq_false', zbe, zdt, zdf, zb2_p, zbp_0, zbp_1, zbp_inj, zbp_01, Bool.true_eq_false, Bool.false_eq_true, true_and, and_true, Decidable.not_not, Classical.not_not, implies_true, List.nil_append, List.cons_append, List.append_assoc, Option.some.injEq, Sum.inl.injEq, zSw_c, zSw_n, zc_355, f_M_isFact, g_M_isFact, f_M_isPerson, g_M_isPerson, f_M_placeOf, g_M_placeOf]); (try simp only [zi_cs, zi_c0, zii_cs, zii_c0, zl_cs, zl_c0, zll_cs, zll_c0, zr_cs, zr_c0, zrr_cs, zrr_c0, zxs_cs, zxs_c0, zxx_cs, zxx_c0, zfree_c0, zfree_c1, zfree_cs, zfree_cz, zlong_i, zlong_r, zlong_x, zset_0, zset_s, true_and, and_true, Option.some.injEq, Sum.inl.injEq, Sum.inr.injEq, zb2_p, zbp_0, zbp_1, zbp_inj, zbp_01, Nat.zero_add, Nat.reduceAdd, implies_true, List.nil_append, List.cons_append, List.append_assoc, Int.not_lt, Int.not_le, Decidable.not_not, Int.zero_add, Int.reduceLE, Int.reduceLT, Int.reduceEq, Int.reduceNe, Int.reduceAdd, Int.reduceSub, Int.reduceMul, Int.reduceNeg, Int.reduceToNat, Nat.reduceMul, Nat.reduceLT, Nat.reduceEqDiff, and_self, ite_true, ite_false, zx1, zx2, zRecv, List.length_cons, List.length_nil, ne_eq, not_true_eq_false, not_false_eq_true, true_or, or_true, or_false, false_or, and_false, false_and, zf01, zf10, reduceCtorEq, zSw_c, zSw_n, zm_r, zit_T, zit_F, false_implies, true_implies, zc_355, f_M_isFact, g_M_isFact, f_M_isPerson, g_M_isPerson, f_M_placeOf, g_M_placeOf])
    have e152 : μ1 357 152 = μ 1 6 := by rw [m7, a1.2]
    rw [e152]
    refine zif (fun c1 => rfM_w (by omega) (by decide) hr ⟨_, rfl, OM.no (zit_t c1) (by decide) PJm.rf⟩) (fun c1 => ?_)
    refine ⟨by omega, ?_⟩
    refine zif (fun c2 => rfM_w (by omega) (by decide) hr ⟨_, rfl, OM.no ((zit_f c1).trans (zit_t (by omega))) (by decide) PJm.rf⟩) (fun c2 => ?_)
    have e : putC (μ 1 6) p w x = 0 := (zit_f c1).trans (zit_f (by omega))
    have c1 := Classical.not_not.mp c1
    have ep : zit (w = 0) p (73 + 2 * p + w - 1) = ptM w p := by
      unfold ptM
      rw [zit_e]
    have hp : 0 ≤ ptM w p ∧ ptM w p < 5764 := by
      unfold ptM
      split <;> omega
    rw [ep]
    exact ⟨⟨by omega, by omega⟩, by omega, by omega, by omega, seM_w (by omega) ⟨_, rfl, OM.yes (by omega) (by ((repeat refine HC.sm ?_ (by omega)); exact HC.rf)) ⟨rfl, rfl⟩⟩⟩
  · rintro c w1 w2 μ1 μ2 hm ⟨rfl, eD⟩ hc ⟨rfl, rfl⟩
    obtain ⟨c1, c2⟩ := putC_0 c
    have hJ1 := hJ.m HC.rf hm
    clear hJ
    obtain ⟨a1, a2, a3, a4, a5, a6, a7, a8, a9, a10⟩ := hJ1.1
    have r3 := a3 p (by omega) (by omega)
    have r2 := a2.2 p (by omega) (by omega)
    rcases c1 with ⟨rfl, cx⟩ | ⟨rfl, cx⟩ | ⟨rfl, cx⟩
    · have e1 : ptC 0 = 3 := rfl
      have e2 : ptM 0 p = p := rfl
      rw [e1] at eD ⊢
      rw [e2]
      refine ⟨r2.symm, JJ.eqD eD (JJ.ok (JJ.fo (JJ.tw hJ1 ?_ (by ((repeat refine KCt.sm ?_ (by unfold scC; omega)); exact KCt.rf)) (by ((repeat first | refine KMt.sm ?_ (by unfold scM; omega) | refine KMt.zf ?_ (by unfold kfM; omega)); exact KMt.rf)))) (by omega) rfl)⟩
      refine ⟨?_, ?_, ?_, ?_, ?_, ?_, ?_, ?_, ?_, ?_⟩
      all_goals first
        | (first | (refine a1.c ?_ ?_ <;> ((repeat rw [zm_o (by omega)]); (try rfl); done)) | (refine a2.c (fun i x y => ?_) (fun i x y => ?_) <;> ((repeat rw [zm_o (by omega)]); (try rfl); done)) | (refine a3.c (fun i x y => ?_) (fun i x y => ?_) <;> (try apply And.intro) <;> ((repeat rw [zm_o (by omega)]); (try rfl); done)) | (refine a4.c ?_ (fun i x y => ?_) (fun i x y => ?_) <;> (try simp only [fD]) <;> ((repeat rw [zm_o (by omega)]); (try rfl); done)) | (refine a5.c ?_ ?_ <;> ((repeat rw [zm_o (by omega)]); (try rfl); done)) | (refine a6.c ?_ ?_ <;> ((repeat rw [zm_o (by omega)]); (try rfl); done)) | (refine a7.c ?_ (fun c p1 p2 i x y => ?_) ?_ (fun i x y => ?_) <;> ((repeat rw [zm_o (by omega)]); (try rfl); done)) | (refine a8.c ?_ (fun c p1 p2 i x y => ?_) ?_ (fun i x y => ?_) <;> ((repeat rw [zm_o (by omega)]); (try rfl); done)) | (refine a9.c ?_ (fun c p1 p2 i x y => ?_) (fun i x y => ?_) <;> ((repeat rw [zm_o (by omega)]); (try rfl); done)) | (refine a10.c ?_ ?_ ?_ <;> ((repeat rw [zm_o (by omega)]); (try rfl); done)))
        | skip
      refine ⟨fun i y z => ?_, fun i y z => ?_⟩
      · have := a2.1 i y z
        rw [zm_r, zit_t rfl]
        unfold zit
        split <;> omega
      · rw [zm_r, zit_t rfl, zm_r, zit_t rfl, a2.2 i y z]
    · have e1 : ptC 1 = 8 := rfl
      have e2 : ptM 1 p = 73 + 2 * p := by show 73 + 2 * p + 1 - 1 = _; omega
      rw [e1] at eD ⊢
      rw [e2]
      refine ⟨r3.1.1.symm, JJ.eqD eD (JJ.ok (JJ.fo (JJ.tw hJ1 ?_ (by ((repeat refine KCt.sm ?_ (by unfold scC; omega)); exact KCt.rf)) (by ((repeat first | refine KMt.sm ?_ (by unfold scM; omega) | refine KMt.zf ?_ (by unfold kfM; omega)); exact KMt.rf)))) (by omega) rfl)⟩
      refine ⟨?_, ?_, ?_, ?_, ?_, ?_, ?_, ?_, ?_, ?_⟩
      all_goals first
        | (first | (refine a1.c ?_ ?_ <;> ((repeat rw [zm_o (by omega)]); (try rfl); done)) | (refine a2.c (fun i x y => ?_) (fun i x y => ?_) <;> ((repeat rw [zm_o (by omega)]); (try rfl); done)) | (refine a3.c (fun i x y => ?_) (fun i x y => ?_) <;> (try apply And.intro) <;> ((repeat rw [zm_o (by omega)]); (try rfl); done)) | (refine a4.c ?_ (fun i x y => ?_) (fun i x y => ?_) <;> (try simp only [fD]) <;> ((repeat rw [zm_o (by omega)]); (try rfl); done)) | (refine a5.c ?_ ?_ <;> ((repeat rw [zm_o (by omega)]); (try rfl); done)) | (refine a6.c ?_ ?_ <;> ((repeat rw [zm_o (by omega)]); (try rfl); done)) | (refine a7.c ?_ (fun c p1 p2 i x y => ?_) ?_ (fun i x y => ?_) <;> ((repeat rw [zm_o (by omega)]); (try rfl); done)) | (refine a8.c ?_ (fun c p1 p2 i x y => ?_) ?_ (fun i x y => ?_) <;> ((repeat rw [zm_o (by omega)]); (try rfl); done)) | (refine a9.c ?_ (fun c p1 p2 i x y => ?_) (fun i x y => ?_) <;> ((repeat rw [zm_o (by omega)]); (try rfl); done)) | (refine a10.c ?_ ?_ ?_ <;> ((repeat rw [zm_o (by omega)]); (try rfl); done)))
        | skip
      intro i y z
      have := a3 i y z
      by_cases ei : i = p
      · subst ei
        rw [zm_s, zm_s, zm_o (by omega), zm_o (by omega)]
        omega
      · (repeat rw [zm_o (by omega)])
        exact this
    · have e1 : ptC 2 = 9 := rfl
      have e2 : ptM 2 p = 74 + 2 * p := by show 73 + 2 * p + 2 - 1 = _; omega
      rw [e1] at eD ⊢
      rw [e2]
      refine ⟨r3.2.1.symm, JJ.eqD eD (JJ.ok (JJ.fo (JJ.tw hJ1 ?_ (by ((repeat refine KCt.sm ?_ (by unfold scC; omega)); exact KCt.rf)) (by ((repeat first | refine KMt.sm ?_ (by unfold scM; omega) | refine KMt.zf ?_ (by unfold kfM; omega)); exact KMt.rf)))) (by omega) rfl)⟩
      refine ⟨?_, ?_, ?_, ?_, ?_, ?_, ?_, ?_, ?_, ?_⟩
      all_goals first
        | (first | (refine a1.c ?_ ?_ <;> ((repeat rw [zm_o (by omega)]); (try rfl); done)) | (refine a2.c (fun i x y => ?_) (fun i x y => ?_) <;> ((repeat rw [zm_o (by omega)]); (try rfl); done)) | (refine a3.c (fun i x y => ?_) (fun i x y => ?_) <;> (try apply And.intro) <;> ((repeat rw [zm_o (by omega)]); (try rfl); done)) | (refine a4.c ?_ (fun i x y => ?_) (fun i x y => ?_) <;> (try simp only [fD]) <;> ((repeat rw [zm_o (by omega)]); (try rfl); done)) | (refine a5.c ?_ ?_ <;> ((repeat rw [zm_o (by omega)]); (try rfl); done)) | (refine a6.c ?_ ?_ <;> ((repeat rw [zm_o (by omega)]); (try rfl); done)) | (refine a7.c ?_ (fun c p1 p2 i x y => ?_) ?_ (fun i x y => ?_) <;> ((repeat rw [zm_o (by omega)]); (try rfl); done)) | (refine a8.c ?_ (fun c p1 p2 i x y => ?_) ?_ (fun i x y => ?_) <;> ((repeat rw [zm_o (by omega)]); (try rfl); done)) | (refine a9.c ?_ (fun c p1 p2 i x y => ?_) (fun i x y => ?_) <;> ((repeat rw [zm_o (by omega)]); (try rfl); done)) | (refine a10.c ?_ ?_ ?_ <;> ((repeat rw [zm_o (by omega)]); (try rfl); done)))
        | skip
      intro i y z
      have := a3 i y z
      by_cases ei : i = p
      · subst ei
        rw [zm_s, zm_s, zm_o (by omega), zm_o (by omega)]
        omega
      · (repeat rw [zm_o (by omega)])
        exact this)
noncomputable def debtC (n nd a b m : Int) : Int := zit (a = b ∨ ¬ (1 ≤ m ∧ m ≤ 9999)) (-1) (zit (¬ ((0 ≤ a ∧ a < n) ∧ 0 ≤ b ∧ b < n)) (-2) (zit (nd < 16) 0 (-5)))
theorem debtC_0 {n nd a b m : Int} (hn : n ≤ 7) (h : 0 ≤ debtC n nd a b m) : nd < 16 ∧ ((0 ≤ a ∧ a < 7) ∧ 0 ≤ b ∧ b < 7) ∧ a ≠ b ∧ 1 ≤ m ∧ m ≤ 9999 := by
  unfold debtC zit at h
  split at h
  · omega
  · split at h
    · omega
    · split at h
      · omega
      · omega
theorem debtC_f {n nd a b m : Int} : debtC n nd a b m = (if a = b ∨ ¬ (1 ≤ m ∧ m ≤ 9999) then -1 else if ¬ ((0 ≤ a ∧ a < n) ∧ 0 ≤ b ∧ b < n) then -2 else if nd < 16 then 0 else -5) := by
  unfold debtC
  rw [← zit_e, ← zit_e, ← zit_e]
theorem debtC_in {n nd a b m : Int} : -6 ≤ debtC n nd a b m ∧ debtC n nd a b m ≤ 0 := by
  unfold debtC zit
  repeat' split
  all_goals omega
/-- a debt is told -/
theorem TD.add {T T' : zMem} {κ κ' : Int → Int} {a b m : Int} (h : TD T κ) (hy : TY T κ) (hn : T 2 5 < 16) (hx : ((0 ≤ a ∧ a < 7) ∧ 0 ≤ b ∧ b < 7) ∧ a ≠ b ∧ 1 ≤ m ∧ m ≤ 9999) (h1 : T' 2 5 = T 2 5 + 1) (h2 : dbD T' = dbD T ++ [(a, b, m, T 2 6)]) (h3 : κ' 71 = κ 71 + 1) (h4 : dbM (fun _ => κ') = dbM (fun _ => κ) ++ [(a, b, m, κ 72)]) : TD T' κ' := by
  have h0 := h.1.1
  have hl := h.l
  have hy1 := hy.1
  refine TD.n (by omega) ?_ (by rw [h3, h.2.1, h1]) (by rw [h4, h2, h.2.2, hy.2])
  rw [h2]
  refine hl.app ?_ ⟨hx.1.1, hx.1.2, hx.2.1, hx.2.2, by omega⟩
  unfold dbD
  rw [tL_len]
  omega
theorem m_D_debtRefusal : Cond.instanceMethod y_D_debtRefusal.1 ∈ zTb ∧ Cond.selects y_D_debtRefusal.1.cls y_D_debtRefusal.1 y_D_debtRefusal.1 ∈ zTb ∧ Cond.initialized y_D_debtRefusal.1.cls ∈ zTb ∧ Cond.code y_D_debtRefusal.1 y_D_debtRefusal.2.1 y_D_debtRefusal.2.2.1 y_D_debtRefusal.2.2.2 ∈ zTb ∧ (y_D_debtRefusal.1.cls ≠ "java/lang/invoke/MethodHandle" ∧ y_D_debtRefusal.1.cls ≠ "java/lang/invoke/VarHandle" ∧ (parseMethodDescriptor y_D_debtRefusal.1.desc).map (fun d => d.parameters.length) = some 3) ∧ y_D_debtRefusal.2.2.1 ≤ 20 :=
  ⟨(zTb_in 639 (by decide +kernel) (by decide +kernel)), (List.mem_filter.mpr ⟨List.mem_append_left _ (by decide +kernel), by decide +kernel⟩), (zTb_in 139 (by decide +kernel) (by decide +kernel)), (zTb_in 640 (by decide +kernel) (by decide +kernel)), by decide +kernel, by decide +kernel⟩
theorem lv_D_145 : zLv "DebtDoors" 145 y_D_debtRefusal 3 11 := ⟨⟨(zTb_in 637 (by decide +kernel) (by decide +kernel)), m_D_debtRefusal.1, m_D_debtRefusal.2.1, m_D_debtRefusal.2.2⟩, _, rfl, rfl⟩
def y_D_debt : zMt := (⟨"DebtDoors", "debt", "(III)I"⟩, prog_1_method_6_code, 5, some .int)
theorem d_D_debt_0 : decode prog_1_method_6_code 0 = .ok (.aload_n 0, 1) := by decide +kernel
theorem d_D_debt_1 : decode prog_1_method_6_code 1 = .ok (.iload_n 1, 1) := by decide +kernel
theorem d_D_debt_2 : decode prog_1_method_6_code 2 = .ok (.iload_n 2, 1) := by decide +kernel
theorem d_D_debt_3 : decode prog_1_method_6_code 3 = .ok (.iload_n 3, 1) := by decide +kernel
theorem d_D_debt_4 : decode prog_1_method_6_code 4 = .ok (.invokevirtual 145, 3) := by decide +kernel
theorem d_D_debt_7 : decode prog_1_method_6_code 7 = .ok (.istore 4, 2) := by decide +kernel
theorem d_D_debt_9 : decode prog_1_method_6_code 9 = .ok (.iload 4, 2) := by decide +kernel
theorem d_D_debt_11 : decode prog_1_method_6_code 11 = .ok (.ifCond .ge 10, 3) := by decide +kernel
theorem d_D_debt_14 : decode prog_1_method_6_code 14 = .ok (.aload_n 0, 1) := by decide +kernel
theorem d_D_debt_15 : decode prog_1_method_6_code 15 = .ok (.iload 4, 2) := by decide +kernel
theorem d_D_debt_17 : decode prog_1_method_6_code 17 = .ok (.invokevirtual 108, 3) := by decide +kernel
theorem d_D_debt_20 : decode prog_1_method_6_code 20 = .ok (.ireturn, 1) := by decide +kernel
theorem d_D_debt_21 : decode prog_1_method_6_code 21 = .ok (.aload_n 0, 1) := by decide +kernel
theorem d_D_debt_22 : decode prog_1_method_6_code 22 = .ok (.getfield 12, 3) := by decide +kernel
theorem d_D_debt_25 : decode prog_1_method_6_code 25 = .ok (.getfield 115, 3) := by decide +kernel
theorem d_D_debt_28 : decode prog_1_method_6_code 28 = .ok (.iload_n 1, 1) := by decide +kernel
theorem d_D_debt_29 : decode prog_1_method_6_code 29 = .ok (.iload_n 2, 1) := by decide +kernel
theorem d_D_debt_30 : decode prog_1_method_6_code 30 = .ok (.iload_n 3, 1) := by decide +kernel
theorem d_D_debt_31 : decode prog_1_method_6_code 31 = .ok (.invokevirtual 149, 3) := by decide +kernel
theorem d_D_debt_34 : decode prog_1_method_6_code 34 = .ok (.aload_n 0, 1) := by decide +kernel
theorem d_D_debt_35 : decode prog_1_method_6_code 35 = .ok (.getfield 34, 3) := by decide +kernel
theorem d_D_debt_38 : decode prog_1_method_6_code 38 = .ok (.invokevirtual 127, 3) := by decide +kernel
theorem d_D_debt_41 : decode prog_1_method_6_code 41 = .ok (.aload_n 0, 1) := by decide +kernel
theorem d_D_debt_42 : decode prog_1_method_6_code 42 = .ok (.aload_n 0, 1) := by decide +kernel
theorem d_D_debt_43 : decode prog_1_method_6_code 43 = .ok (.getfield 12, 3) := by decide +kernel
theorem d_D_debt_46 : decode prog_1_method_6_code 46 = .ok (.getfield 115, 3) := by decide +kernel
theorem d_D_debt_49 : decode prog_1_method_6_code 49 = .ok (.getfield 153, 3) := by decide +kernel
theorem d_D_debt_52 : decode prog_1_method_6_code 52 = .ok (.iconst 1, 1) := by decide +kernel
theorem d_D_debt_53 : decode prog_1_method_6_code 53 = .ok (.isub, 1) := by decide +kernel
theorem d_D_debt_54 : decode prog_1_method_6_code 54 = .ok (.invokevirtual 130, 3) := by decide +kernel
theorem d_D_debt_57 : decode prog_1_method_6_code 57 = .ok (.ireturn, 1) := by decide +kernel
def w_D_debt {d : Nat} (hd : 3 ≤ d) := (show SS ("DebtDoors", prog_1_method_6_code, 5) (some .int) d 0 0 0 0 _ from (sS (p1 := 9) (sI (xE (rV p_D_debtRefusal (Nat.le_trans (Nat.le_of_ble_eq_true rfl) hd) lv_D_145 (rAi (rAi (rAi (rAr rA0 (rAn 0 d_D_debt_0 rfl)) (rIn 1 d_D_debt_1 rfl)) (rIn 2 d_D_debt_2 rfl)) (rIn 3 d_D_debt_3 rfl)) (by decide) d_D_debt_4)) d_D_debt_7 (by decide)) (sS (p1 := 21) (sIf (pn := 21) (tt := 14) (xC (rNot (rJ1 (tgt := 21) k_ge (rIl d_D_debt_9) d_D_debt_11 (by decide)))) (sRi (xV lv_D_108 (xA (rAi (rAr rA0 (rAn 0 d_D_debt_14 rfl)) (rIl d_D_debt_15))) (by decide) d_D_debt_17) d_D_debt_20 rfl)) (sS (p1 := 34) (sV (xVv lv_D_149 (xA (rAi (rAi (rAi (rAr rA0 (rFr fl_D_115 nk_9_0 (rFr fl_D_12 nk_11_0 (rAn 0 d_D_debt_21 rfl) d_D_debt_22) d_D_debt_25)) (rIn 1 d_D_debt_28 rfl)) (rIn 2 d_D_debt_29 rfl)) (rIn 3 d_D_debt_30 rfl))) (by decide) d_D_debt_31)) (sS (p1 := 41) (sV (xVv lv_D_127 (xA (rAr rA0 (rFr fl_D_34 nk_11_4 (rAn 0 d_D_debt_34 rfl) d_D_debt_35))) (by decide) d_D_debt_38)) (sRi (xV lv_D_130 (xA (rAi (rAr rA0 (rAn 0 d_D_debt_41 rfl)) (r2 o_sub (rF 5 fl_D_153 nk_1_5 (rFr fl_D_115 nk_9_0 (rFr fl_D_12 nk_11_0 (rAn 0 d_D_debt_42 rfl) d_D_debt_43) d_D_debt_46) d_D_debt_49 rfl) (rI d_D_debt_52 rfl) d_D_debt_53))) (by decide) d_D_debt_54) d_D_debt_57 rfl))))))
theorem m_M_whyNot : Cond.instanceMethod y_M_whyNot.1 ∈ zTb ∧ Cond.selects y_M_whyNot.1.cls y_M_whyNot.1 y_M_whyNot.1 ∈ zTb ∧ Cond.initialized y_M_whyNot.1.cls ∈ zTb ∧ Cond.code y_M_whyNot.1 y_M_whyNot.2.1 y_M_whyNot.2.2.1 y_M_whyNot.2.2.2 ∈ zTb ∧ (y_M_whyNot.1.cls ≠ "java/lang/invoke/MethodHandle" ∧ y_M_whyNot.1.cls ≠ "java/lang/invoke/VarHandle" ∧ (parseMethodDescriptor y_M_whyNot.1.desc).map (fun d => d.parameters.length) = some 3) ∧ y_M_whyNot.2.2.1 ≤ 20 :=
  ⟨(zTb_in 1569 (by decide +kernel) (by decide +kernel)), (List.mem_filter.mpr ⟨List.mem_append_left _ (by decide +kernel), by decide +kernel⟩), (zTb_in 151 (by decide +kernel) (by decide +kernel)), (zTb_in 1570 (by decide +kernel) (by decide +kernel)), by decide +kernel, by decide +kernel⟩
theorem lv_M_158 : zLv "DebtDoorsModel" 158 y_M_whyNot 3 12 := ⟨⟨(zTb_in 1567 (by decide +kernel) (by decide +kernel)), m_M_whyNot.1, m_M_whyNot.2.1, m_M_whyNot.2.2⟩, _, rfl, rfl⟩
def y_M_debt : zMt := (⟨"DebtDoorsModel", "debt", "(III)I"⟩, prog_14_method_26_code, 5, some .int)
theorem d_M_debt_0 : decode prog_14_method_26_code 0 = .ok (.aload_n 0, 1) := by decide +kernel
theorem d_M_debt_1 : decode prog_14_method_26_code 1 = .ok (.iload_n 1, 1) := by decide +kernel
theorem d_M_debt_2 : decode prog_14_method_26_code 2 = .ok (.iload_n 2, 1) := by decide +kernel
theorem d_M_debt_3 : decode prog_14_method_26_code 3 = .ok (.iload_n 3, 1) := by decide +kernel
theorem d_M_debt_4 : decode prog_14_method_26_code 4 = .ok (.invokevirtual 158, 3) := by decide +kernel
theorem d_M_debt_7 : decode prog_14_method_26_code 7 = .ok (.istore 4, 2) := by decide +kernel
theorem d_M_debt_9 : decode prog_14_method_26_code 9 = .ok (.iload 4, 2) := by decide +kernel
theorem d_M_debt_11 : decode prog_14_method_26_code 11 = .ok (.ifCond .ge 10, 3) := by decide +kernel
theorem d_M_debt_14 : decode prog_14_method_26_code 14 = .ok (.aload_n 0, 1) := by decide +kernel
theorem d_M_debt_15 : decode prog_14_method_26_code 15 = .ok (.iload 4, 2) := by decide +kernel
theorem d_M_debt_17 : decode prog_14_method_26_code 17 = .ok (.invokevirtual 127, 3) := by decide +kernel
theorem d_M_debt_20 : decode prog_14_method_26_code 20 = .ok (.ireturn, 1) := by decide +kernel
theorem d_M_debt_21 : decode prog_14_method_26_code 21 = .ok (.aload_n 0, 1) := by decide +kernel
theorem d_M_debt_22 : decode prog_14_method_26_code 22 = .ok (.iload_n 1, 1) := by decide +kernel
theorem d_M_debt_23 : decode prog_14_method_26_code 23 = .ok (.iload_n 2, 1) := by decide +kernel
theorem d_M_debt_24 : decode prog_14_method_26_code 24 = .ok (.iload_n 3, 1) := by decide +kernel
theorem d_M_debt_25 : decode prog_14_method_26_code 25 = .ok (.invokevirtual 162, 3) := by decide +kernel
theorem d_M_debt_28 : decode prog_14_method_26_code 28 = .ok (.aload_n 0, 1) := by decide +kernel
theorem d_M_debt_29 : decode prog_14_method_26_code 29 = .ok (.aload_n 0, 1) := by decide +kernel
theorem d_M_debt_30 : decode prog_14_method_26_code 30 = .ok (.invokevirtual 137, 3) := by decide +kernel
theorem d_M_debt_33 : decode prog_14_method_26_code 33 = .ok (.iconst 1, 1) := by decide +kernel
theorem d_M_debt_34 : decode prog_14_method_26_code 34 = .ok (.isub, 1) := by decide +kernel
theorem d_M_debt_35 : decode prog_14_method_26_code 35 = .ok (.invokevirtual 130, 3) := by decide +kernel
theorem d_M_debt_38 : decode prog_14_method_26_code 38 = .ok (.ireturn, 1) := by decide +kernel
def w_M_debt {d : Nat} (hd : 4 ≤ d) := (show SS ("DebtDoorsModel", prog_14_method_26_code, 5) (some .int) d 0 0 0 0 _ from (sS (p1 := 9) (sI (xE (rV p_M_whyNot (Nat.le_trans (Nat.le_of_ble_eq_true rfl) hd) lv_M_158 (rAi (rAi (rAi (rAr rA0 (rAn 0 d_M_debt_0 rfl)) (rIn 1 d_M_debt_1 rfl)) (rIn 2 d_M_debt_2 rfl)) (rIn 3 d_M_debt_3 rfl)) (by decide) d_M_debt_4)) d_M_debt_7 (by decide)) (sS (p1 := 21) (sIf (pn := 21) (tt := 14) (xC (rNot (rJ1 (tgt := 21) k_ge (rIl d_M_debt_9) d_M_debt_11 (by decide)))) (sRi (xV lv_M_127 (xA (rAi (rAr rA0 (rAn 0 d_M_debt_14 rfl)) (rIl d_M_debt_15))) (by decide) d_M_debt_17) d_M_debt_20 rfl)) (sS (p1 := 28) (sV (xVv lv_M_162 (xA (rAi (rAi (rAi (rAr rA0 (rAn 0 d_M_debt_21 rfl)) (rIn 1 d_M_debt_22 rfl)) (rIn 2 d_M_debt_23 rfl)) (rIn 3 d_M_debt_24 rfl))) (by decide) d_M_debt_25)) (sRi (xV lv_M_130 (xA (rAi (rAr rA0 (rAn 0 d_M_debt_28 rfl)) (r2 o_sub (rV p_M_debts (Nat.le_trans (Nat.le_of_ble_eq_true rfl) hd) lv_M_137 (rAr rA0 (rAn 0 d_M_debt_29 rfl)) (by decide) d_M_debt_30) (rI d_M_debt_33 rfl) d_M_debt_34))) (by decide) d_M_debt_35) d_M_debt_38 rfl)))))
theorem LC_debt {a b m : Int} : LC y_D_debt y_M_debt [vi a, vi b, vi m] := LC.mk (fun k μ h0 h1 hJ => by
  obtain ⟨a1, a2, a3, a4, a5, a6, a7, a8, a9, a10⟩ := hJ.1
  have hn := a1.1
  have hd := a4.1.1
  refine ⟨debtC (μ 1 6) (μ 2 5) a b m, fun v μ1 => v = μ 2 5 ∧ ∃ X, (X 2 5 = μ 2 5 + 1 ∧ X 2 6 = μ 2 6 ∧ dbD X = dbD μ ++ [(a, b, m, μ 2 6)] ∧ zfc [2, 4, 5, 6, 7] μ X) ∧ μ1 = zm (zm X 111 3 0) 0 15 0, fun μ1 v μ2 => v = μ1 357 71 ∧ ∃ Y, (dbM Y = dbM μ1 ++ [(a, b, m, μ1 357 72)] ∧ Y 357 71 = μ1 357 71 + 1 ∧ (∀ j : Int, (j < 7 ∨ 72 ≤ j) → Y 357 j = μ1 357 j) ∧ zfc [357] μ1 Y) ∧ μ2 = zm (zm Y 355 28 0) 355 0 0, debtC_in.1, ?_, ?_, ?_⟩
  · refine zCw.use (zSp.ss [vr 0, vi a, vi b, vi m, vx 0] rfl (w_D_debt (d := 100) (by decide)) rfl rfl ?_) (by decide) (fun q μ' e => e)
    (try simp only [zit_e, Bool.and_eq_true, Bool.or_eq_true, Bool.not_eq_true', Bool.and_eq_false_iff, Bool.or_eq_false_iff, Bool.not_eq_false', zbe, zdt, zdf, zb2_p, zbp_0, zbp_1, zbp_inj, zbp_01, Bool.true_eq_false, Bool.false_eq_true, true_and, and_true, Decidable.not_not, Classical.not_not, implies_true, List.nil_append, List.cons_append, List.append_assoc, Option.some.injEq, Sum.inl.injEq, zSw_c, zSw_n]); (try simp only [zit_e, Bool.and_eq_true, Bool.or_eq_true, Bool.not_eq_true', Bool.and_eq_false_iff, Bool.or_eq_false_iff, Bool.not_eq_false', zbe, zdt, zdf, zb2_p, zbp_0, zbp_1, zbp_inj, zbp_01, Bool.true_eq_false, Bool.false_eq_true, true_and, and_true, Decidable.not_not, Classical.not_not, implies_true, List.nil_append, List.cons_append, List.append_assoc, Option.some.injEq, Sum.inl.injEq, zSw_c, zSw_n, zc_0, zc_1, zc_2, zc_111]); (try simp only [zi_cs, zi_c0, zii_cs, zii_c0, zl_cs, zl_c0, zll_cs, zll_c0, zr_cs, zr_c0, zrr_cs, zrr_c0, zxs_cs, zxs_c0, zxx_cs, zxx_c0, zfree_c0, zfree_c1, zfree_cs, zfree_cz, zlong_i, zlong_r, zlong_x, zset_0, zset_s, true_and, and_true, Option.some.injEq, Sum.inl.injEq, Sum.inr.injEq, zb2_p, zbp_0, zbp_1, zbp_inj, zbp_01, Nat.zero_add, Nat.reduceAdd, implies_true, List.nil_append, List.cons_append, List.append_assoc, Int.not_lt, Int.not_le, Decidable.not_not, Int.zero_add, Int.reduceLE, Int.reduceLT, Int.reduceEq, Int.reduceNe, Int.reduceAdd, Int.reduceSub, Int.reduceMul, Int.reduceNeg, Int.reduceToNat, Nat.reduceMul, Nat.reduceLT, Nat.reduceEqDiff, and_self, ite_true, ite_false, zx1, zx2, zRecv, List.length_cons, List.length_nil, ne_eq, not_true_eq_false, not_false_eq_true, true_or, or_true, or_false, false_or, and_false, false_and, zf01, zf10, reduceCtorEq, zSw_c, zSw_n, zm_r, zit_T, zit_F, false_implies, true_implies, zc_0, zc_1, zc_2, zc_111])
    rw [show f_D_debtRefusal [vr 0, vi a, vi b, vi m] μ = debtC (μ 1 6) (μ 2 5) a b m from debtC_f.symm]
    have hin := debtC_in (n := μ 1 6) (nd := μ 2 5) (a := a) (b := b) (m := m)
    refine ⟨⟨rfl, trivial⟩, ?_⟩
    refine zif (fun c1 => rfD_w (by omega) hin (hJ.rD h0 h1) ⟨_, rfl, OD.no rfl c1 PJc.rf⟩) (fun c1 => ?_)
    obtain ⟨g1, g2⟩ := debtC_0 (by omega) (Int.not_lt.mp c1)
    refine zCw.use (q_Le_add (d := 1) (by decide) ⟨hd.1, g1⟩) (by decide) (fun q X e => ?_)
    obtain ⟨rfl, e1, e2, e3, e4⟩ := e
    refine ⟨rfl, fgD_w (by omega) ⟨rfl, ?_⟩⟩
    rw [zm_o (by omega), e1]
    refine ⟨by ((try simp only [zI_e]); (first | done | omega | skip)), acD_w (by omega) ⟨_, rfl, OD.yes (Int.not_lt.mp c1) (((e4.hm (by simp)).sm (by omega)).sm (by omega)) ⟨by omega, X, ⟨e1, e2, e3, e4⟩, rfl⟩⟩⟩
  · intro μ1 hm
    have hr := hJ.rM h0 h1 hm
    have m7 := hm 357 (by decide)
    have e152 : μ1 357 152 = μ 1 6 := by rw [m7, a1.2]
    have e71 : μ1 357 71 = μ 2 5 := by rw [m7, a4.2.1]
    refine zCw.use (zSp.ss [vr 355, vi a, vi b, vi m, vx 0] rfl (w_M_debt (d := 100) (by decide)) rfl rfl ?_) (by decide) (fun q μ' e => e)
    (try simp only [zit_e, Bool.and_eq_true, Bool.or_eq_true, Bool.not_eq_true', Bool.and_eq_false_iff, Bool.or_eq_false_iff, Bool.not_eq_false', zbe, zdt, zdf, zb2_p, zbp_0, zbp_1, zbp_inj, zbp_01, Bool.true_eq_false, Bool.false_eq_true, true_and, and_true, Decidable.not_not, Classical.not_not, implies_true, List.nil_append, List.cons_append, List.append_assoc, Option.some.injEq, Sum.inl.injEq, zSw_c, zSw_n]); (try simp only [zit_e, Bool.and_eq_true, Bool.or_eq_true, Bool.not_eq_true', Bool.and_eq_false_iff, Bool.or_eq_false_iff, Bool.not_eq_false', zbe, zdt, zdf, zb2_p, zbp_0, zbp_1, zbp_inj, zbp_01, Bool.true_eq_false, Bool.false_eq_true, true_and, and_true, Decidable.not_not, Classical.not_not, implies_true, List.nil_append, List.cons_append, List.append_assoc, Option.some.injEq, Sum.inl.injEq, zSw_c, zSw_n, zc_355]); (try simp only [zi_cs, zi_c0, zii_cs, zii_c0, zl_cs, zl_c0, zll_cs, zll_c0, zr_cs, zr_c0, zrr_cs, zrr_c0, zxs_cs, zxs_c0, zxx_cs, zxx_c0, zfree_c0, zfree_c1, zfree_cs, zfree_cz, zlong_i, zlong_r, zlong_x, zset_0, zset_s, true_and, and_true, Option.some.injEq, Sum.inl.injEq, Sum.inr.injEq, zb2_p, zbp_0, zbp_1, zbp_inj, zbp_01, Nat.zero_add, Nat.reduceAdd, implies_true, List.nil_append, List.cons_append, List.append_assoc, Int.not_lt, Int.not_le, Decidable.not_not, Int.zero_add, Int.reduceLE, Int.reduceLT, Int.reduceEq, Int.reduceNe, Int.reduceAdd, Int.reduceSub, Int.reduceMul, Int.reduceNeg, Int.reduceToNat, Nat.reduceMul, Nat.reduceLT, Nat.reduceEqDiff, and_self, ite_true, ite_false, zx1, zx2, zRecv, List.length_cons, List.length_nil, ne_eq, not_true_eq_false, not_false_eq_true, true_or, or_true, or_false, false_or, and_false, false_and, zf01, zf10, reduceCtorEq, zSw_c, zSw_n, zm_r, zit_T, zit_F, false_implies, true_implies, zc_355])
    rw [show f_M_whyNot [vr 355, vi a, vi b, vi m] μ1 = debtC (μ 1 6) (μ 2 5) a b m by rw [← e152, ← e71]; exact debtC_f.symm]
    have hin := debtC_in (n := μ 1 6) (nd := μ 2 5) (a := a) (b := b) (m := m)
    refine ⟨⟨rfl, by rw [e152, e71]; exact ⟨hn, hd⟩⟩, ?_⟩
    refine zif (fun c1 => rfM_w (by omega) hin hr ⟨_, rfl, OM.no rfl c1 PJm.rf⟩) (fun c1 => ?_)
    obtain ⟨g1, g2⟩ := debtC_0 (by omega) (Int.not_lt.mp c1)
    refine zCw.use (q_M_adds (d := 2) (by decide) ⟨by omega, by omega⟩) (by decide) (fun q Y e => ?_)
    obtain ⟨rfl, e1, e2, e3, e4⟩ := e
    refine ⟨rfl, ?_⟩
    (try simp only [zit_e, Bool.and_eq_true, Bool.or_eq_true, Bool.not_eq_true', Bool.and_eq_false_iff, Bool.or_eq_false_iff, Bool.not_eq_false', zbe, zdt, zdf, zb2_p, zbp_0, zbp_1, zbp_inj, zbp_01, Bool.true_eq_false, Bool.false_eq_true, true_and, and_true, Decidable.not_not, Classical.not_not, implies_true, List.nil_append, List.cons_append, List.append_assoc, Option.some.injEq, Sum.inl.injEq, zSw_c, zSw_n]); (try simp only [zit_e, Bool.and_eq_true, Bool.or_eq_true, Bool.not_eq_true', Bool.and_eq_false_iff, Bool.or_eq_false_iff, Bool.not_eq_false', zbe, zdt, zdf, zb2_p, zbp_0, zbp_1, zbp_inj, zbp_01, Bool.true_eq_false, Bool.false_eq_true, true_and, and_true, Decidable.not_not, Classical.not_not, implies_true, List.nil_append, List.cons_append, List.append_assoc, Option.some.injEq, Sum.inl.injEq, zSw_c, zSw_n, zc_355, f_M_debts, g_M_debts]); (try simp only [zi_cs, zi_c0, zii_cs, zii_c0, zl_cs, zl_c0, zll_cs, zll_c0, zr_cs, zr_c0, zrr_cs, zrr_c0, zxs_cs, zxs_c0, zxx_cs, zxx_c0, zfree_c0, zfree_c1, zfree_cs, zfree_cz, zlong_i, zlong_r, zlong_x, zset_0, zset_s, true_and, and_true, Option.some.injEq, Sum.inl.injEq, Sum.inr.injEq, zb2_p, zbp_0, zbp_1, zbp_inj, zbp_01, Nat.zero_add, Nat.reduceAdd, implies_true, List.nil_append, List.cons_append, List.append_assoc, Int.not_lt, Int.not_le, Decidable.not_not, Int.zero_add, Int.reduceLE, Int.reduceLT, Int.reduceEq, Int.reduceNe, Int.reduceAdd, Int.reduceSub, Int.reduceMul, Int.reduceNeg, Int.reduceToNat, Nat.reduceMul, Nat.reduceLT, Nat.reduceEqDiff, and_self, ite_true, ite_false, zx1, zx2, zRecv, List.length_cons, List.length_nil, ne_eq, not_true_eq_false, not_false_eq_true, true_or, or_true, or_false, false_or, and_false, false_and, zf01, zf10, reduceCtorEq, zSw_c, zSw_n, zm_r, zit_T, zit_F, false_implies, true_implies, zc_355, f_M_debts, g_M_debts])
    rw [e2, e71]
    refine ⟨by ((try simp only [zI_e]); (first | done | omega | skip)), seM_w (by omega) ⟨_, rfl, OM.yes (Int.not_lt.mp c1) (((e4.hc (by simp)).sm (by omega)).sm (by omega)) ⟨by omega, Y, ⟨e1, by omega, e3, e4⟩, rfl⟩⟩⟩
  · rintro c w1 w2 μ1 μ2 hm ⟨rfl, X, ⟨x1, x2, x3, x4⟩, eD⟩ hc ⟨rfl, Y, ⟨y1, y2, y3, y4⟩, rfl⟩
    have hJ1 := hJ.m HC.rf hm
    obtain ⟨g1, g2⟩ := debtC_0 (by omega) c
    clear hJ
    obtain ⟨a1, a2, a3, a4, a5, a6, a7, a8, a9, a10⟩ := hJ1.1
    refine ⟨a4.2.1.symm, JJ.eqD eD (JJ.ok (JJ.fo (JJ.tw hJ1 ?_ (x4.kt (by simp)) (y4.kmt (by simp) (fun j _ => by rw [y4 355 (by decide)])))) (by omega) rfl)⟩
    have k1 : X 1 = μ 1 := x4 1 (by decide)
    have kc : ∀ c : Nat, 8 ≤ c → X c = μ c := fun c hc => x4 c (by simp only [List.mem_cons, List.not_mem_nil, or_false]; omega)
    have k3 : X 3 = μ 3 := x4 3 (by decide)
    have km := fun (i : Int) (h : 72 ≤ i) => y3 i (Or.inr h)
    exact ⟨a1.c (by rw [k1]) (km _ (by decide)), a2.c (fun i _ _ => by rw [k3]) (fun i _ h => y3 i (Or.inl h)), a3.c (fun i _ _ => by rw [kc 8 (by decide), kc 9 (by decide)]; exact ⟨rfl, rfl⟩) (fun i h _ => km i (by omega)), a4.add a5 g1 g2 x1 x3 y2 y1, a5.c x2 (km _ (by decide)), a6.c (by rw [k1]) (km _ (by decide)), a7.c (by rw [k1]) (fun c p _ i _ _ => by rw [kc c (by omega)]) (km _ (by decide)) (fun i h _ => km i (by omega)), a8.c (by rw [k1]) (fun c p _ i _ _ => by rw [kc c (by omega)]) (km _ (by decide)) (fun i h _ => km i (by omega)), a9.c (by rw [k1]) (fun c p _ i _ _ => by rw [kc c (by omega)]) (fun i h _ => km i (by omega)), a10.c (by rw [k1]) (by rw [k1]) (km _ (by decide))⟩)

